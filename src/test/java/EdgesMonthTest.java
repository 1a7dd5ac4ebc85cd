/** The boundary cases of terms 2 and 5, and of promises 8, 9, 21, 33, sentence by sentence. */
public final class EdgesMonthTest {
    private static final int NONE = ElsewhereStamps.NONE;
    private static final int LEAST = Integer.MIN_VALUE;
    private static final int MOST = Integer.MAX_VALUE;
    private static final int[] NO_NUMBERS = {LEAST, LEAST + 1, -1000, -3, -2, -1, 1, 2, 3, 1000, MOST - 1, MOST};
    private static final Check check = new Check("EdgesMonthTest");
    /** HOURS that bring a CLERK to HOUR 288. */
    private static final String DAYS = "wait 0 24;".repeat(12);

    private EdgesMonthTest() {
    }

    public static void main(String[] args) {
        begins();
        rides();
        waits();
        marks();
        laws();
        noSuch();
        lastHour();
        end();
        tillNoneSuch();
        states();
        stateWhats();
        stateEmpty();
        done();
        seeds();
        drawnTimes();
        drawnNothing();
        drawnMarks();
        drawnIfItMay();
        drawnRefused();
        open();
        riddenAndWaited();
        first();
        afterRefused();
        check.finish();
    }

    private static ElsewhereStamps withMonth(String rail, String month) {
        ElsewhereStamps x = Tape.withRail(rail);
        check.same("month '" + month + "'", Tape.tell(x, month, Tape.MONTH, NONE), 0);
        return x;
    }

    /** END of a MONTH, and what a CLERK's HOUR is then. */
    private static void goes(String rail, String month, int end, int hour) {
        ElsewhereStamps x = withMonth(rail, month);
        String name = "'" + rail + "' '" + month + "'";
        check.same("end of " + name, x.till(0, 0), end);
        check.same("hour behind " + name, x.state(0, 0, end, 20), hour);
    }

    private static void begins() {
        check.sentence("A MONTH of a RAIL begins at HOUR 0 for each CLERK, where he is at first, nothing being MARKED");
        ElsewhereStamps x = withMonth(Tales.full(), "");
        int[] at = {0, 5, 0, 5};
        for (int c = 0; c < 4; c++) {
            check.same("where " + c, x.state(0, 0, 0, 10 + c), at[c]);
            check.same("hour " + c, x.state(0, 0, 0, 20 + c), 0);
            check.same("marked " + c, x.state(0, 0, 0, 30 + c), 0);
        }
        check.same("marks", x.state(0, 0, 0, 0), 0);
        check.same("latest", x.state(0, 0, 0, 2), 0);
        check.sentence("each has an HOUR of his own.");
        ElsewhereStamps y = withMonth(Tales.full(), "wait 3 24;wait 1 1;ride 0 0;");
        int[] hours = {1, 1, 0, 24};
        for (int c = 0; c < 4; c++) {
            check.same("hour " + c, y.state(0, 0, 3, 20 + c), hours[c]);
        }
    }

    private static void rides() {
        check.sentence("he waits until it leaves next (not at all, if it leaves in this HOUR)");
        for (int leaves = 0; leaves < 12; leaves++) {
            String rail = "train 0 1 " + leaves + " 1;train 0 1 " + leaves + " 24;clerk 0 0;";
            for (int wait = 1; wait <= 24; wait++) {
                int leave = wait;
                while (leave % 12 != leaves) {
                    leave++;
                }
                goes(rail, "wait 0 " + wait + ";ride 0 0;", 2, leave + 1);
                goes(rail, "wait 0 " + wait + ";ride 0 1;", 2, leave + 24);
            }
            goes(rail, "ride 0 0;", 1, leaves + 1);
        }
        check.sentence("ride: a TRAIN that goes from the LAND where he is");
        String rail = "train 0 1 0 1;train 1 0 0 1;train 1 2 0 1;clerk 2 0;";
        goes(rail, "ride 0 1;", 0, 0);
        goes(rail, "ride 0 0;ride 0 0;", 1, 1);
        goes(rail, "ride 0 0;ride 0 1;ride 0 0;", 3, 25);
        check.same("he is where it goes", withMonth(rail, "ride 0 0;ride 0 2;").state(0, 0, 2, 10), 2);
    }

    private static void waits() {
        check.sentence("wait: so many HOURS go by for him.");
        goes("clerk 0 0;", "wait 0 1;", 1, 1);
        goes("clerk 0 0;", "wait 0 24;", 1, 24);
        goes("clerk 0 0;", "wait 0 1;".repeat(40), 40, 40);
        check.same("he stays where he is", withMonth("clerk 0 2;", "wait 0 24;").state(0, 0, 1, 10), 2);
    }

    private static void marks() {
        check.sentence("mark: a PERMIT in the LAND where he is, which NEEDS the MARK of his own LAND and has not got it");
        String rail = "train 1 0 0 1;permit 0;permit 1;permit 0;needs 0 1;needs 1 2;needs 2 2;clerk 1 0;clerk 2 1;";
        goes(rail, "mark 0 0;", 1, 1);
        goes(rail, "mark 0 1;", 0, 0);
        goes(rail, "mark 0 2;", 0, 0);
        goes(rail, "mark 0 0;mark 0 0;", 1, 1);
        goes(rail, "mark 1 1;ride 1 0;mark 1 2;mark 1 2;", 3, 0);
        goes(rail, "mark 1 0;", 0, 0);
        // Two CLERKS of one LAND: it has got that MARK, whoever has made it.
        goes("permit 0;needs 0 1;clerk 1 0;clerk 1 0;", "mark 1 0;mark 0 0;", 1, 0);
        check.sentence("it is MARKED at his HOUR, which takes 1 HOUR more.");
        ElsewhereStamps x = withMonth(rail, "wait 0 5;mark 0 0;");
        check.same("marked at 5", x.state(0, 0, 2, 101), 5);
        check.same("6 then", x.state(0, 0, 2, 20), 6);
        check.same("not before", x.state(0, 0, 1, 101), NONE);
        check.sentence("100 + 10 p + l: the HOUR at which a PERMIT was MARKED by a LAND (NONE: not).");
        check.same("marked at 0 is marked", withMonth(rail, "mark 0 0;").state(0, 0, 1, 101), 0);
        check.same("marked at 298", withMonth(rail, DAYS + "wait 0 10;mark 0 0;").state(0, 0, 14, 101), 298);
        check.same("not by a land that it needs not", withMonth(rail, "mark 0 0;").state(0, 0, 1, 102), NONE);
        check.same("not by the land in which it is", withMonth(rail, "mark 0 0;").state(0, 0, 1, 100), NONE);
        check.same("another permit is not", withMonth(rail, "mark 0 0;").state(0, 0, 1, 111), NONE);
    }

    private static void laws() {
        check.sentence("each LAW for that MARK being kept: one tells only of PERMITS that NEED both MARKS");
        String both = "permit 0;needs 0 1;needs 0 2;clerk 1 0;clerk 2 0;law 1 2;";
        goes(both, "mark 0 0;", 0, 0);
        goes(both, "mark 1 0;mark 0 0;", 2, 1);
        // It needs one of both alone: the LAW tells nothing of it.
        goes("permit 0;needs 0 1;clerk 1 0;clerk 2 0;law 1 2;", "mark 0 0;", 1, 1);
        goes("permit 0;needs 0 1;clerk 1 0;law 2 1;", "mark 0 0;", 1, 1);
        // Of six LAWS the last counts too.
        goes("lands 4;permit 0;needs 0 1;needs 0 2;clerk 1 0;law 1 3;law 1 0;law 2 3;law 3 2;law 0 1;law 1 2;", "mark 0 0;", 0, 0);
        check.sentence("the other one must be there, MARKED at no later an HOUR than his own");
        for (int other = 1; other <= 5; other++) {
            for (int own = 1; own <= 5; own++) {
                String month = "wait 1 " + other + ";mark 1 0;wait 0 " + own + ";mark 0 0;";
                goes(both, month, own < other ? 3 : 4, own < other ? own : own + 1);
            }
        }
        goes(both, "mark 1 0;mark 0 0;", 2, 1);
    }

    private static void noSuch() {
        check.sentence("A DEED can't be, if there is no such CLERK, TRAIN, PERMIT, or it is not as said");
        String rail = "train 0 1 0 1;permit 0;needs 0 1;clerk 1 0;";
        goes(rail, "wait 0 1;wait 1 1;", 1, 1);
        goes(rail, "wait 0 1;wait 3 1;", 1, 1);
        goes(rail, "wait 0 1;ride 1 0;", 1, 1);
        goes(rail, "wait 0 1;mark 1 0;", 1, 1);
        goes(rail, "wait 0 1;ride 0 1;", 1, 1);
        goes(rail, "wait 0 1;ride 0 11;", 1, 1);
        goes(rail, "wait 0 1;mark 0 1;", 1, 1);
        goes(rail, "wait 0 1;mark 0 7;", 1, 1);
        // What an earlier RAIL had in its place is not there.
        ElsewhereStamps x = withMonth(Tales.full(), "ride 0 11;");
        check.same("the last train", x.till(0, 0), 1);
        Tape.tell(x, rail, Tape.RAIL, 0);
        check.same("no such train now", x.till(0, 0), 0);
        Tape.tell(x, "wait 3 1;", Tape.MONTH, 0);
        check.same("no such clerk now", x.till(0, 0), 0);
        Tape.tell(x, Tales.full(), Tape.RAIL, 0);
        check.same("the last clerk", x.till(0, 0), 1);
        Tape.tell(x, "mark 3 7;", Tape.MONTH, 0);
        check.same("the last permit, by the laws not yet", x.till(0, 0), 0);
        check.same("no clerks at all", withMonth("", "wait 0 1;").till(0, 0), 0);
    }

    private static void lastHour() {
        check.sentence("or his HOUR would be above 299.");
        goes("clerk 0 0;", DAYS + "wait 0 11;", 13, 299);
        goes("clerk 0 0;", DAYS + "wait 0 12;", 12, 288);
        goes("clerk 0 0;", DAYS + "wait 0 11;wait 0 1;", 13, 299);
        goes("clerk 0 0;", DAYS + "wait 0 10;wait 0 1;wait 0 1;", 14, 299);
        String marks = "permit 0;permit 0;needs 0 1;needs 1 1;clerk 1 0;";
        goes(marks, DAYS + "wait 0 10;mark 0 0;", 14, 299);
        goes(marks, DAYS + "wait 0 11;mark 0 0;", 13, 299);
        goes(marks, DAYS + "wait 0 10;mark 0 0;mark 0 1;", 14, 299);
        for (int takes = 1; takes <= 24; takes++) {
            // It leaves at 287: from 276 on he waits for it, from 288 on it would leave at 299.
            String rail = "train 0 1 11 " + takes + ";clerk 0 0;";
            String month = "wait 0 24;".repeat(11) + "wait 0 12;ride 0 0;";
            goes(rail, month, takes <= 12 ? 13 : 12, takes <= 12 ? 287 + takes : 276);
            goes(rail, DAYS + "ride 0 0;", 12, 288);
        }
        // One who is beyond it does not stop the others, but END is where the first can't.
        ElsewhereStamps x = withMonth("clerk 0 0;clerk 0 0;", DAYS + "wait 0 12;wait 1 1;");
        check.same("end", x.till(0, 0), 12);
        check.same("the other one", x.state(0, 0, 12, 21), 0);
    }

    private static void end() {
        check.sentence("END: the first DEED that can't be, else how many there are.");
        goes("clerk 0 0;", "", 0, 0);
        goes("clerk 0 0;", "wait 0 1;".repeat(39) + "wait 1 1;", 39, 39);
        goes("clerk 0 0;", "wait 0 1;".repeat(40), 40, 40);
        goes("clerk 0 0;", "wait 1 1;" + "wait 0 1;".repeat(39), 0, 0);
        goes("clerk 0 0;", "wait 1 1;wait 1 1;", 0, 0);
    }

    private static void tillNoneSuch() {
        check.sentence("NONE: there is none such (of either). (till)");
        ElsewhereStamps x = withMonth("clerk 0 0;", "wait 0 1;");
        for (int odd : NO_NUMBERS) {
            check.same("rail " + odd, x.till(odd, 0), NONE);
            check.same("month " + odd, x.till(0, odd), NONE);
            check.same("both " + odd, x.till(odd, odd), NONE);
        }
        check.same("a rail, no month", Tape.withRail("").till(0, 0), NONE);
        ElsewhereStamps y = new ElsewhereStamps();
        Tape.tell(y, "", Tape.MONTH, NONE);
        check.same("a month, no rail", y.till(0, 0), NONE);
        // Each MONTH goes with each RAIL.
        Tape.tell(x, "", Tape.RAIL, NONE);
        Tape.tell(x, "wait 0 1;wait 0 1;", Tape.MONTH, NONE);
        int[][] due = {{1, 2}, {0, 0}};
        for (int rail = 0; rail < 2; rail++) {
            for (int month = 0; month < 2; month++) {
                check.same("rail " + rail + " month " + month, x.till(rail, month), due[rail][month]);
            }
        }
    }

    private static void states() {
        check.sentence("A STATE is behind the first n DEEDS, n up to END.");
        ElsewhereStamps x = withMonth("clerk 0 0;", "wait 0 1;wait 0 2;wait 0 3;wait 1 1;wait 0 4;");
        int[] hours = {0, 1, 3, 6};
        for (int n = 0; n < 4; n++) {
            check.same("state " + n, x.state(0, 0, n, 20), hours[n]);
        }
        for (int n : new int[] {LEAST, -2, -1, 4, 5, 6, 40, 41, MOST}) {
            check.same("state " + n, x.state(0, 0, n, 20), -2);
            check.same("state " + n + " marks", x.state(0, 0, n, 0), -2);
        }
        ElsewhereStamps y = withMonth("clerk 0 0;", "wait 0 1;".repeat(40));
        check.same("state 40", y.state(0, 0, 40, 20), 40);
        check.same("state 41", y.state(0, 0, 41, 20), -2);
        check.same("no deeds, state 0", withMonth("clerk 0 0;", "").state(0, 0, 0, 2), 0);
        check.same("no deeds, state 1", withMonth("clerk 0 0;", "").state(0, 0, 1, 2), -2);
        for (int odd : NO_NUMBERS) {
            check.same("rail " + odd, x.state(odd, 0, 0, 0), -2);
            check.same("month " + odd, x.state(0, odd, 0, 0), -2);
        }
    }

    /** In land 5 of the full RAIL permit 7 gets MARKS 0, 1, 4 of 0 to 4; the last needs the LAWS. */
    private static void stateWhats() {
        check.sentence("-2: there is no such STATE, or for another what.");
        String ring = "ride 0 0;ride 0 1;ride 0 2;ride 0 3;ride 0 4;";
        ElsewhereStamps x = withMonth(Tales.full(), ring + ring.replace("ride 0", "ride 2") + "mark 0 7;mark 2 7;mark 3 7;");
        check.same("end", x.till(0, 0), 12);
        int[][] due = {{0, 2}, {1, 62}, {2, 6}, {10, 5}, {11, 5}, {12, 5}, {13, 5}, {20, 6}, {21, 0}, {22, 6}, {23, 0},
            {30, 1}, {31, 0}, {32, 1}, {33, 0}, {40, 0}, {41, 0}, {42, 0}, {43, 0}, {44, 0}, {45, 0}, {46, 0}, {47, 3}};
        int[] answers = new int[500];
        java.util.Arrays.fill(answers, -2);
        for (int[] row : due) {
            answers[row[0]] = row[1];
        }
        for (int p = 0; p < 8; p++) {
            for (int l = 0; l < 6; l++) {
                answers[100 + 10 * p + l] = NONE;
            }
        }
        answers[170] = 5;
        answers[171] = 5;
        for (int what = 0; what < answers.length; what++) {
            check.same("state, what " + what, x.state(0, 0, 12, what), answers[what]);
        }
        for (int what : new int[] {LEAST, LEAST + 1, -100, -10, -2, -1, 1000, MOST - 1, MOST}) {
            check.same("state, what " + what, x.state(0, 0, 12, what), -2);
        }
    }

    private static void stateEmpty() {
        check.sentence("Of a STATE, what 0: how many MARKS there are, 1: PERMITS that are DONE (bits), 2: the latest HOUR of any CLERK");
        ElsewhereStamps x = withMonth("lands 2;", "");
        for (int what = -5; what < 300; what++) {
            check.same("nothing, what " + what, x.state(0, 0, 0, what), what >= 0 && what <= 2 ? 0 : -2);
        }
        ElsewhereStamps y = withMonth("lands 2;permit 1;clerk 0 1;", "");
        int[][] due = {{0, 0}, {1, 1}, {2, 0}, {10, 1}, {20, 0}, {30, 0}, {40, 0}, {100, NONE}, {101, NONE}};
        int[] answers = new int[300];
        java.util.Arrays.fill(answers, -2);
        for (int[] row : due) {
            answers[row[0]] = row[1];
        }
        for (int what = 0; what < answers.length; what++) {
            check.same("one of each, what " + what, y.state(0, 0, 0, what), answers[what]);
        }
        ElsewhereStamps z = withMonth("clerk 0 0;clerk 0 0;clerk 0 0;clerk 0 0;", "wait 3 7;wait 0 6;wait 1 5;");
        check.same("the latest is the last clerk", z.state(0, 0, 3, 2), 7);
        check.same("before, too", z.state(0, 0, 1, 2), 7);
    }

    private static void done() {
        check.sentence("A PERMIT is DONE, if it has all MARKS that it NEEDS.");
        StringBuilder rail = new StringBuilder("lands 2;" + "permit 0;".repeat(8) + "clerk 1 0;");
        StringBuilder month = new StringBuilder();
        for (int p = 7; p >= 1; p--) {
            rail.append(Tales.line("needs", p, 1));
            month.append(Tales.line("mark", 0, p));
        }
        ElsewhereStamps x = withMonth(rail.toString(), month.toString());
        int bits = 1;
        for (int n = 0; n <= 7; n++) {
            check.same("done behind " + n, x.state(0, 0, n, 1), bits);
            check.same("marks behind " + n, x.state(0, 0, n, 0), n);
            bits |= 1 << 7 - n;
        }
        ElsewhereStamps y = withMonth("permit 0;needs 0 1;needs 0 2;clerk 1 0;clerk 2 0;", "mark 0 0;mark 1 0;");
        check.same("one of two marks is not all", y.state(0, 0, 1, 1), 0);
        check.same("both are", y.state(0, 0, 2, 1), 1);
    }

    /** A number below n, by long arithmetic alone. */
    private static int next(long[] x, int below) {
        x[0] = (x[0] * 1103515245L + 12345L) % 4294967296L;
        return (int) (x[0] / 65536 % below);
    }

    private static final int[] SEEDS = {0, 1, -1, 12345, LEAST, LEAST + 1, MOST, MOST - 1, 0x80000001, 0x7fff0000, -65536, 987654321};

    private static void seeds() {
        check.sentence("x becomes x * 1103515245 + 12345 (of 32 bits), it is x shifted right by 16 without sign, remainder by n");
        ElsewhereStamps x = Tape.withRail("clerk 0 0;clerk 0 0;clerk 0 0;");
        for (int seed : SEEDS) {
            long[] row = {seed & 0xffffffffL};
            int[] hours = new int[3];
            for (int n = 0; n <= 60; n++) {
                for (int c = 0; c < 3; c++) {
                    check.same("seed " + seed + " n " + n + " clerk " + c, x.drawn(0, seed, n, 20 + c), hours[c]);
                }
                int kind = next(row, 8);
                int clerk = next(row, 3);
                if (kind == 7) {
                    hours[clerk] += 1 + next(row, 12);
                }
            }
        }
    }

    private static void drawnTimes() {
        check.sentence("n times, 0 to 60");
        ElsewhereStamps x = Tape.withRail(Tales.full());
        for (int what = -3; what < 200; what++) {
            Tape.tell(x, "", Tape.MONTH, x.count(1) == 0 ? NONE : 0);
            check.same("none drawn, what " + what, x.drawn(0, 5, 0, what), x.state(0, 0, 0, what));
        }
        check.same("60 may be", x.drawn(0, 5, 60, 2) > 0, true);
        for (int n : new int[] {LEAST, -61, -1, 61, 62, 1000, MOST}) {
            check.same("n " + n, x.drawn(0, 5, n, 2), -2);
        }
    }

    private static void drawnNothing() {
        check.sentence("(Without CLERKS nothing more is drawn, without TRAINS, PERMITS nothing behind the CLERK; nothing is done then.)");
        ElsewhereStamps x = Tape.withRail("train 0 1 0 1;permit 0;needs 0 1;");
        for (int what = 0; what <= 2; what++) {
            check.same("without clerks, what " + what, x.drawn(0, 7, 60, what), 0);
        }
        check.same("no clerk", x.drawn(0, 7, 60, 10), -2);
        // Without TRAINS: marks and waits alone; without PERMITS: rides and waits alone.
        for (int seed : SEEDS) {
            drawnAgain("permit 0;needs 0 1;clerk 1 0;clerk 2 0;", 0, 1, 2, seed);
            drawnAgain("train 0 1 5 7;train 1 0 2 1;clerk 1 0;clerk 2 0;", 2, 0, 2, seed);
        }
    }

    /**
     * What is drawn on a RAIL whose TRAINS are none, or 0 to 1 at 5 (7 HOURS) and back at 2 (1), whose PERMITS are none, or
     * one in 0 that NEEDS 1, and whose CLERKS, both in 0, are of 1 and 2.
     */
    private static void drawnAgain(String rail, int trains, int permits, int clerks, int seed) {
        ElsewhereStamps x = Tape.withRail(rail);
        long[] row = {seed & 0xffffffffL};
        int[] at = new int[clerks];
        int[] hour = new int[clerks];
        int markHour = NONE;
        for (int n = 0; n <= 60; n++) {
            for (int c = 0; c < clerks; c++) {
                check.same(rail + " seed " + seed + " n " + n + " where " + c, x.drawn(0, seed, n, 10 + c), at[c]);
                check.same(rail + " seed " + seed + " n " + n + " hour " + c, x.drawn(0, seed, n, 20 + c), hour[c]);
            }
            if (permits > 0) {
                check.same(rail + " seed " + seed + " n " + n + " mark", x.drawn(0, seed, n, 101), markHour);
            }
            int kind = next(row, 8);
            int clerk = next(row, clerks);
            if (kind < 3 && trains > 0) {
                int train = next(row, trains);
                int leave = hour[clerk];
                while (leave % 12 != (train == 0 ? 5 : 2)) {
                    leave++;
                }
                int there = leave + (train == 0 ? 7 : 1);
                if (at[clerk] == train && there <= 299) {
                    at[clerk] = 1 - train;
                    hour[clerk] = there;
                }
            } else if (kind >= 3 && kind < 7 && permits > 0) {
                next(row, permits);
                if (clerk == 0 && markHour == NONE) {
                    markHour = hour[0];
                    hour[0]++;
                }
            } else if (kind == 7) {
                hour[clerk] += 1 + next(row, 12);
            }
        }
    }

    private static void drawnMarks() {
        check.sentence("3 to 6: mark, a PERMIT, below PERMITS");
        // All PERMITS may be marked by both CLERKS where they are: each that is drawn is MARKED, once by each.
        StringBuilder rail = new StringBuilder("permit 0;".repeat(8) + "clerk 1 0;clerk 2 0;");
        for (int p = 0; p < 8; p++) {
            rail.append(Tales.line("needs", p, 1)).append(Tales.line("needs", p, 2));
        }
        ElsewhereStamps x = Tape.withRail(rail.toString());
        for (int seed : SEEDS) {
            long[] row = {seed & 0xffffffffL};
            int[] marks = new int[8];
            for (int n = 0; n <= 60; n++) {
                for (int p = 0; p < 8; p++) {
                    check.same("seed " + seed + " n " + n + " permit " + p, x.drawn(0, seed, n, 40 + p), marks[p]);
                }
                int kind = next(row, 8);
                int clerk = next(row, 2);
                if (kind >= 3 && kind <= 6) {
                    marks[next(row, 8)] |= 2 << clerk;
                } else if (kind == 7) {
                    next(row, 12);
                }
            }
        }
    }

    private static void drawnIfItMay() {
        check.sentence("each, if it may.");
        // Two TRAINS of 24 HOURS each: some seeds come to HOUR 299, beyond which nothing may be, but all goes on.
        ElsewhereStamps x = Tape.withRail("lands 2;train 0 1 0 24;train 1 0 0 24;clerk 0 0;");
        boolean refused = false;
        for (int seed = -40; seed < 40; seed++) {
            long[] row = {seed & 0xffffffffL};
            int at = 0;
            int hour = 0;
            for (int n = 1; n <= 60; n++) {
                int kind = next(row, 8);
                next(row, 1);
                int then = hour;
                int where = at;
                if (kind < 3) {
                    boolean goes = next(row, 2) == at;
                    then = goes ? (hour + 11) / 12 * 12 + 24 : hour;
                    where = goes ? 1 - at : at;
                } else if (kind == 7) {
                    then = hour + 1 + next(row, 12);
                }
                refused = refused || then > 299;
                at = then > 299 ? at : where;
                hour = then > 299 ? hour : then;
                check.same("seed " + seed + " n " + n + " where", x.drawn(0, seed, n, 10), at);
                check.same("seed " + seed + " n " + n + " hour", x.drawn(0, seed, n, 20), hour);
            }
        }
        check.same("some could not be", refused, true);
    }

    private static void drawnRefused() {
        check.sentence("-2: there is none such, another n, or for another what.");
        ElsewhereStamps x = Tape.withRail(Tales.full());
        for (int odd : NO_NUMBERS) {
            check.same("rail " + odd, x.drawn(odd, 1, 1, 0), -2);
        }
        for (int what : new int[] {LEAST, -1, 3, 9, 14, 19, 24, 34, 48, 50, 99, 106, 109, 116, 176, 180, 1000, MOST}) {
            check.same("what " + what, x.drawn(0, 1, 60, what), -2);
        }
        for (int what : new int[] {0, 1, 2, 10, 13, 20, 23, 30, 33, 40, 47}) {
            check.same("what " + what, x.drawn(0, 1, 60, what) >= 0, true);
        }
        for (int what : new int[] {100, 105, 110, 170, 175}) {
            check.same("what " + what, x.drawn(0, 1, 60, what) >= NONE, true);
        }
    }

    private static void open() {
        check.sentence("OPEN of a CLERK: PERMITS (bits) that he could mark at once, where he is");
        StringBuilder rail = new StringBuilder("permit 0;".repeat(7) + "permit 2;clerk 1 0;clerk 2 0;law 1 2;");
        for (int p = 0; p < 8; p++) {
            rail.append(Tales.line("needs", p, 1));
        }
        String needsBoth = "needs 0 2;needs 1 2;";
        ElsewhereStamps x = withMonth(rail + needsBoth, "");
        check.same("of 1", x.after(0, 0, 10), 124);
        check.same("of 2", x.after(0, 0, 11), 3);
        Tape.tell(x, "mark 1 0;mark 0 6;", Tape.MONTH, 0);
        check.same("of 1, behind two marks", x.after(0, 0, 10), 61);
        check.same("of 2, behind two marks", x.after(0, 0, 11), 2);
        Tape.tell(x, "wait 1 2;mark 1 0;wait 0 1;", Tape.MONTH, 0);
        check.same("of 1, an hour too soon for the law", x.after(0, 0, 10), 124);
        Tape.tell(x, "wait 1 2;mark 1 0;wait 0 2;", Tape.MONTH, 0);
        check.same("of 1, in the hour of the other mark", x.after(0, 0, 10), 125);
        // At 299 nothing can be marked any more.
        Tape.tell(x, DAYS + "wait 0 10;", Tape.MONTH, 0);
        check.same("at 298", x.after(0, 0, 10), 124);
        Tape.tell(x, DAYS + "wait 0 11;", Tape.MONTH, 0);
        check.same("at 299", x.after(0, 0, 10), 0);
        check.same("of the other one", x.after(0, 0, 11), 3);
        ElsewhereStamps all = withMonth("lands 2;" + "permit 0;".repeat(8) + rail.substring(rail.indexOf("needs")) + "clerk 1 0;", "");
        check.same("all eight", all.after(0, 0, 10), 255);
    }

    private static void riddenAndWaited() {
        check.sentence("RIDDEN, WAITED of a CLERK: HOURS in TRAINS, HOURS in which he waited (for a TRAIN, too)");
        String rail = "train 0 1 0 24;train 1 0 11 1;permit 0;needs 0 1;clerk 1 0;clerk 1 0;clerk 1 0;clerk 1 0;";
        ElsewhereStamps x = withMonth(rail, "");
        for (int c = 0; c < 4; c++) {
            check.same("ridden at first " + c, x.after(0, 0, 20 + c), 0);
            check.same("waited at first " + c, x.after(0, 0, 30 + c), 0);
        }
        // At 0 it leaves in this HOUR; at 24 the other one leaves at 35; at 36 a mark is no waiting.
        Tape.tell(x, "ride 3 0;ride 3 1;mark 3 0;wait 3 24;wait 0 1;ride 0 0;", Tape.MONTH, 0);
        int[] ridden = {24, 0, 0, 25};
        int[] waited = {12, 0, 0, 35};
        for (int c = 0; c < 4; c++) {
            check.same("ridden " + c, x.after(0, 0, 20 + c), ridden[c]);
            check.same("waited " + c, x.after(0, 0, 30 + c), waited[c]);
        }
        check.sentence("Of a MONTH on a RAIL, behind all DEEDS up to END");
        Tape.tell(x, "wait 0 3;ride 0 1;wait 0 9;ride 0 0;mark 1 0;", Tape.MONTH, 0);
        check.same("waited up to end", x.after(0, 0, 30), 3);
        check.same("not ridden behind end", x.after(0, 0, 20), 0);
        check.same("not marked behind end", x.after(0, 0, 11), 1);
        check.same("not done behind end", x.after(0, 0, 0), NONE);
    }

    private static void first() {
        check.sentence("FIRST: the DEED (from 0 on) by which the first PERMIT was DONE that had not been so (none).");
        String rail = "permit 0;permit 0;permit 0;needs 1 1;needs 2 1;needs 2 2;clerk 1 0;clerk 2 0;";
        ElsewhereStamps x = withMonth(rail, "mark 0 1;");
        check.same("by the first deed", x.after(0, 0, 0), 0);
        String[] months = {"", "mark 0 2;", "mark 0 2;mark 1 2;mark 0 1;", "wait 0 1;".repeat(39) + "mark 0 1;",
            "wait 0 1;".repeat(39) + "mark 1 1;", "mark 1 1;mark 0 1;", "mark 1 2;mark 0 1;mark 0 2;"};
        int[] due = {NONE, NONE, 1, 39, NONE, NONE, 1};
        for (int i = 0; i < months.length; i++) {
            Tape.tell(x, months[i], Tape.MONTH, 0);
            check.same("first of '" + months[i] + "'", x.after(0, 0, 0), due[i]);
        }
        // One MONTH's answer leaves nothing to the other one.
        Tape.tell(x, "mark 0 1;", Tape.MONTH, 0);
        Tape.tell(x, "wait 0 1;", Tape.MONTH, NONE);
        for (int turn = 0; turn < 3; turn++) {
            check.same("of the one", x.after(0, 0, 0), 0);
            check.same("of the other one", x.after(0, 1, 0), NONE);
        }
        check.same("none needed, none done by a deed", withMonth("permit 0;clerk 0 0;", "wait 0 1;").after(0, 0, 0), NONE);
    }

    private static void afterRefused() {
        check.sentence("-2: there is none such (of any), or for another what.");
        ElsewhereStamps x = withMonth(Tales.full(), "");
        for (int what = -50; what < 200; what++) {
            boolean clerk = what >= 10 && what < 40 && what % 10 < 4;
            // The one of land 1, in 0, could mark permit 6, which does not need the mark of 0 that the law tells of.
            int due = what == 0 ? NONE : what == 12 ? 64 : clerk ? 0 : -2;
            check.same("what " + what, x.after(0, 0, what), due);
        }
        for (int odd : NO_NUMBERS) {
            check.same("rail " + odd, x.after(odd, 0, 0), -2);
            check.same("month " + odd, x.after(0, odd, 0), -2);
        }
        for (int what : new int[] {LEAST, LEAST + 8, -20, -10, 1000, 1010, MOST}) {
            check.same("what " + what, x.after(0, 0, what), -2);
        }
        ElsewhereStamps y = withMonth("permit 0;", "");
        for (int what = 1; what < 50; what++) {
            check.same("without clerks, what " + what, y.after(0, 0, what), -2);
        }
        check.same("without clerks, first", y.after(0, 0, 0), NONE);
    }
}
