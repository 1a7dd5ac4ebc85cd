/** Texts that several tests tell. */
final class Tales {
    /**
     * Three lands; 0 to 1 at 2 (3 hours), 1 to 0 at 5 (4), 1 to 2 at 6 (2), 2 to 0 at 0 (5). Permit 0 in land 1 needs 0;
     * permit 1 in land 2 needs 0 and 1, and the mark of 0 goes behind the one of 1. A clerk of 0 in 0, one of 1 in 1.
     */
    static final String RAIL = "lands 3;train 0 1 2 3;train 1 0 5 4;train 1 2 6 2;train 2 0 0 5;permit 1;permit 2;"
        + "needs 0 0;needs 1 0;needs 1 1;law 0 1;clerk 0 0;clerk 1 1;";
    /** The last deed can't be: the mark is there. */
    static final String MONTH = "ride 0 0;mark 0 0;wait 1 2;ride 1 2;mark 1 1;ride 0 2;mark 0 1;mark 0 1;";
    static final String LOG = "seen 0 1;seen 1 6;";
    /** No trains; each of two lands asks the other one. */
    static final String NO_TRAINS = "lands 2;permit 0;permit 1;needs 0 1;needs 1 0;law 0 1;law 1 0;clerk 0 0;";
    /** Nothing but three lands. */
    static final String EMPTY = "";

    private Tales() {
    }
}
