/** Texts that several tests tell. */
final class Tales {
    /**
     * Three lands; 0 to 1 at 2 (3 hours), 1 to 0 at 5 (4), 1 to 2 at 6 (2), 2 to 0 at 0 (5). Permit 0 in land 1 needs 0;
     * permit 1 in land 2 needs 0 and 1, and the mark of 0 goes behind the one of 1. A clerk of 0 in 0, one of 1 in 1.
     */
    static final String RAIL = "lands 3;train 0 1 2 3;train 1 0 5 4;train 1 2 6 2;train 2 0 0 5;permit 1;permit 2;"
        + "needs 0 0;needs 1 0;needs 1 1;law 0 1;clerk 0 0;clerk 1 1;";
    /** The last deed can't be: the mark is there. */
    static final String MONTH = "ride 0 0;mark 0 0;wait 1 2;ride 1 2;mark 1 1;ride 0 2;mark 0 1;mark 0 1;";
    static final String LOG = "seen 0 1;seen 1 6;";
    /** No trains; each of two lands asks the other one. */
    static final String NO_TRAINS = "lands 2;permit 0;permit 1;needs 0 1;needs 1 0;law 0 1;law 1 0;clerk 0 0;";
    /** Nothing but three lands. */
    static final String EMPTY = "";
    /** Of a rail as many as may be of all: by number, what a line of each tells (of trains: from, to, hour, how long). */
    static final int[][] FULL_TRAINS = {{0, 1, 0, 1}, {1, 2, 1, 1}, {2, 3, 2, 1}, {3, 4, 3, 1}, {4, 5, 4, 1}, {5, 0, 5, 1},
        {1, 0, 11, 24}, {2, 1, 11, 24}, {3, 2, 11, 24}, {4, 3, 11, 24}, {5, 4, 11, 24}, {0, 5, 11, 24}};
    static final int[] FULL_PLACES = {0, 1, 2, 3, 4, 5, 0, 5};
    /** Bits. */
    static final int[] FULL_NEEDS = {32, 0, 0, 0, 0, 0, 62, 31};
    static final int[][] FULL_LAWS = {{1, 0}, {2, 1}, {3, 2}, {4, 3}, {5, 4}, {0, 5}};
    static final int[][] FULL_CLERKS = {{0, 0}, {5, 5}, {1, 0}, {4, 5}};

    private Tales() {
    }

    /** Six lands in a ring: one goes round by an hour each, the other way by a day and more. */
    static String full() {
        StringBuilder text = new StringBuilder("lands 6;");
        for (int[] train : FULL_TRAINS) {
            text.append(line("train", train));
        }
        for (int place : FULL_PLACES) {
            text.append(line("permit", place));
        }
        for (int permit = 0; permit < FULL_NEEDS.length; permit++) {
            for (int land = 0; land < 6; land++) {
                if ((FULL_NEEDS[permit] >> land & 1) == 1) {
                    text.append(line("needs", permit, land));
                }
            }
        }
        for (int[] law : FULL_LAWS) {
            text.append(line("law", law));
        }
        for (int[] clerk : FULL_CLERKS) {
            text.append(line("clerk", clerk));
        }
        return text.toString();
    }

    static String line(String word, int... numbers) {
        StringBuilder text = new StringBuilder(word);
        for (int number : numbers) {
            text.append(' ').append(number);
        }
        return text.append(';').toString();
    }
}
