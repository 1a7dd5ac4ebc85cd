/** Promises 10, 13 to 16, 18, 22 to 26: where one comes by which hour, worked out by hand. */
public final class WaysTest {
    private static final int NONE = ElsewhereStamps.NONE;
    private static final int[] ODD = {Integer.MIN_VALUE, -100, -3, 9, 1000, Integer.MAX_VALUE};
    private static final Check check = new Check("WaysTest");

    private WaysTest() {
    }

    public static void main(String[] args) {
        soonest();
        firstTrainOfSeveral();
        meeting();
        offices();
        cut();
        mean();
        counts();
        lands();
        trains();
        latest();
        board();
        gathered();
        check.finish();
    }

    private static void soonest() {
        ElsewhereStamps x = Tape.withRail(Tales.RAIL);
        int[][] due = {{0, 0, 1, 5, 0}, {0, 2, 1, 5, 0}, {0, 3, 1, 17, 0}, {0, 0, 2, 8, 0}, {1, 0, 0, 9, 1},
            {1, 6, 0, 17, 2}, {2, 0, 1, 17, 3}, {2, 1, 0, 17, 3}, {0, 99, 1, 113, 0}, {0, 5, 0, 5, NONE},
            {2, 99, 2, 99, NONE}};
        for (int[] row : due) {
            String call = "soonest " + row[0] + " " + row[1] + " " + row[2];
            check.same(call, x.soonest(0, row[0], row[1], row[2], false), row[3]);
            check.same(call + " train", x.soonest(0, row[0], row[1], row[2], true), row[4]);
        }
        for (boolean train : new boolean[] {false, true}) {
            check.same("hour 100", x.soonest(0, 0, 100, 1, train), -2);
            check.same("hour -1", x.soonest(0, 0, -1, 1, train), -2);
            check.same("land 3", x.soonest(0, 3, 0, 1, train), -2);
            check.same("land -1", x.soonest(0, -1, 0, 1, train), -2);
            check.same("to land 3", x.soonest(0, 0, 0, 3, train), -2);
            check.same("to land -1", x.soonest(0, 0, 0, -1, train), -2);
            check.same("rail 1", x.soonest(1, 0, 0, 1, train), -2);
            for (int odd : ODD) {
                check.same("odd", x.soonest(odd, 0, 0, 1, train), -2);
                check.same("odd", x.soonest(0, odd, 0, 1, train), -2);
                check.same("odd", x.soonest(0, 0, 0, odd, train), -2);
            }
        }
        ElsewhereStamps y = Tape.withRail(Tales.NO_TRAINS);
        check.same("never", y.soonest(0, 0, 0, 1, false), -2);
        check.same("never by a train", y.soonest(0, 0, 0, 1, true), -2);
        check.same("there", y.soonest(0, 1, 7, 1, false), 7);
        check.same("there without a train", y.soonest(0, 1, 7, 1, true), NONE);
    }

    /** Both come at 8; the least number counts, also where it goes round about and back to the first land. */
    private static void firstTrainOfSeveral() {
        ElsewhereStamps x = Tape.withRail("train 0 1 6 2;train 0 2 0 3;train 2 1 5 3;");
        check.same("as soon by both", x.soonest(0, 0, 0, 1, true), 0);
        ElsewhereStamps y = Tape.withRail("train 0 2 0 3;train 2 1 5 3;train 0 1 6 2;");
        check.same("as soon by both, turned", y.soonest(0, 0, 0, 1, true), 0);
        check.same("the direct one alone", y.soonest(0, 0, 1, 1, true), 2);
        ElsewhereStamps z = Tape.withRail("train 0 2 0 1;train 2 0 2 2;train 0 1 6 2;");
        check.same("there and back goes too", z.soonest(0, 0, 0, 1, true), 0);
        check.same("too late for that", z.soonest(0, 0, 1, 1, true), 2);
    }

    private static void meeting() {
        ElsewhereStamps x = Tape.withRail(Tales.RAIL);
        check.same("meeting", x.meeting(0, 0, 1, false), 5);
        check.same("its land", x.meeting(0, 0, 1, true), 1);
        check.same("turned", x.meeting(0, 1, 0, false), 5);
        check.same("turned land", x.meeting(0, 1, 0, true), 1);
        check.same("clerk 2", x.meeting(0, 0, 2, false), NONE);
        check.same("clerk -1", x.meeting(0, -1, 0, true), NONE);
        check.same("rail 1", x.meeting(1, 0, 1, false), NONE);
        for (int odd : ODD) {
            check.same("odd", x.meeting(odd, 0, 1, false), NONE);
            check.same("odd", x.meeting(0, odd, 1, false), NONE);
            check.same("odd", x.meeting(0, 0, odd, true), NONE);
        }
        ElsewhereStamps y = Tape.withRail("clerk 0 0;clerk 0 1;clerk 1 1;");
        check.same("never", y.meeting(0, 0, 1, false), NONE);
        check.same("never, land", y.meeting(0, 0, 1, true), NONE);
        check.same("at once", y.meeting(0, 1, 2, false), 0);
        check.same("at once, land", y.meeting(0, 1, 2, true), 1);
        // Both in land 1 or 2 at 4: the least land.
        ElsewhereStamps z = Tape.withRail("train 0 1 0 4;train 0 2 0 4;clerk 0 0;clerk 1 0;train 1 2 0 1;clerk 1 1;");
        check.same("of several the least", z.meeting(0, 0, 2, true), 1);
        check.same("of several the least, hour", z.meeting(0, 0, 2, false), 4);
    }

    private static void offices() {
        ElsewhereStamps x = Tape.withRail(Tales.RAIL);
        int[][] due = {{0, NONE, NONE}, {1, 1, 14}, {2, 3, 5}, {3, 7, 0}, {4, NONE, NONE}, {6, NONE, NONE},
            {7, NONE, NONE}, {-1, NONE, NONE}};
        for (int[] row : due) {
            check.same("offices " + row[0], x.offices(0, row[0], false), row[1]);
            check.same("hours of offices " + row[0], x.offices(0, row[0], true), row[2]);
        }
        check.same("rail 1", x.offices(1, 1, false), NONE);
        for (int odd : ODD) {
            check.same("odd", x.offices(odd, 1, false), NONE);
            check.same("odd", x.offices(0, odd, true), NONE);
        }
        ElsewhereStamps y = Tape.withRail("lands 3;train 0 1 3 1;");
        check.same("not all come to one", y.offices(0, 1, false), NONE);
        check.same("not all come to one, hours", y.offices(0, 1, true), NONE);
        check.same("1 and 2", y.offices(0, 2, false), 6);
        check.same("4 hours", y.offices(0, 2, true), 4);
    }

    private static void cut() {
        ElsewhereStamps x = Tape.withRail(Tales.RAIL);
        int[][] due = {{0, 0, 2, 8, NONE}, {1, 0, 2, 999, 0}, {2, 0, 2, 999, 0}, {3, 0, 2, 999, 0},
            {0, 1, 0, 9, NONE}, {1, 1, 0, 17, 1}, {2, 1, 0, 17, 1}, {3, 1, 0, 999, 1}, {1, 1, 1, 0, 0},
            {0, 1, 1, 0, NONE}, {4, 0, 1, -2, -2}, {-1, 0, 1, -2, -2}, {1, 3, 0, -2, -2}, {1, 0, 3, -2, -2},
            {1, -1, 0, -2, -2}, {1, 0, -1, -2, -2}};
        for (int[] row : due) {
            String call = "cut " + row[0] + " " + row[1] + " " + row[2];
            check.same(call, x.cut(0, row[0], row[1], row[2], false), row[3]);
            check.same(call + " first", x.cut(0, row[0], row[1], row[2], true), row[4]);
        }
        check.same("rail 1", x.cut(1, 0, 0, 1, false), -2);
        for (int odd : ODD) {
            check.same("odd", x.cut(odd, 1, 0, 1, false), -2);
            check.same("odd", x.cut(0, odd, 0, 1, false), -2);
            check.same("odd", x.cut(0, 1, odd, 1, true), -2);
            check.same("odd", x.cut(0, 1, 0, odd, true), -2);
        }
        ElsewhereStamps y = Tape.withRail(Tales.NO_TRAINS);
        check.same("never", y.cut(0, 0, 0, 1, false), 999);
        check.same("no train to take", y.cut(0, 1, 0, 1, true), 12);
        check.same("never still", y.cut(0, 3, 0, 1, false), 999);
    }

    private static void mean() {
        ElsewhereStamps x = Tape.withRail(Tales.RAIL);
        long[][] due = {{17, 1}, {55, 3}, {20, 1}, {155, 7}, {25, 1}, {29, 1}, {35, 1}, {45, 1}, {65, 1}, {125, 1}};
        for (int p = 0; p < 10; p++) {
            check.same("mean " + p, x.mean(0, 0, 3, p, false), due[p][0]);
            check.same("mean under " + p, x.mean(0, 0, 3, p, true), due[p][1]);
        }
        check.same("it leaves in this hour", x.mean(0, 0, 2, 0, false), 5);
        check.same("hour 99", x.mean(0, 0, 99, 0, false), 113);
        for (boolean under : new boolean[] {false, true}) {
            check.same("p 10", x.mean(0, 0, 3, 10, under), NONE);
            check.same("p -1", x.mean(0, 0, 3, -1, under), NONE);
            check.same("hour 100", x.mean(0, 0, 100, 1, under), NONE);
            check.same("hour -1", x.mean(0, 0, -1, 1, under), NONE);
            check.same("train 4", x.mean(0, 4, 0, 1, under), NONE);
            check.same("train -1", x.mean(0, -1, 0, 1, under), NONE);
            check.same("rail 1", x.mean(1, 0, 0, 1, under), NONE);
            check.same("rail -1", x.mean(-1, 0, 0, 1, under), NONE);
        }
    }

    private static void counts() {
        ElsewhereStamps x = Tape.withRail(Tales.RAIL);
        int[][] due = {{6, 2, 6, 0}, {5, 5, 5, 0}, {3, 1, 3, 0}, {3, 1, 3, 0}};
        for (int reading = 0; reading < 4; reading++) {
            for (int land = 0; land < 3; land++) {
                check.same("counts " + land + " " + reading, x.counts(0, land, reading), due[land][reading]);
            }
            check.same("read " + reading, x.counts(0, NONE, reading), due[3][reading]);
            check.same("land 3", x.counts(0, 3, reading), NONE);
            check.same("land -2", x.counts(0, -2, reading), NONE);
            check.same("rail 1", x.counts(1, 0, reading), NONE);
        }
        check.same("reading 4", x.counts(0, 0, 4), NONE);
        check.same("reading -1", x.counts(0, NONE, -1), NONE);
        for (int odd : ODD) {
            check.same("odd", x.counts(odd, 0, 0), NONE);
            check.same("odd", x.counts(0, odd, 0), NONE);
            check.same("odd", x.counts(0, 0, odd), NONE);
        }
        ElsewhereStamps y = Tape.withRail(Tales.NO_TRAINS);
        check.same("no train, reading 2", y.counts(0, 0, 2), 0);
        check.same("no train, reading 3", y.counts(0, 0, 3), 2);
        check.same("read by 2", y.counts(0, NONE, 2), 0);
        check.same("read by 3", y.counts(0, NONE, 3), 3);
        // A PERMIT that needs none is read by each; a TRAIN to a LAND alone is enough against reading 3.
        ElsewhereStamps z = Tape.withRail("lands 3;train 1 0 0 1;permit 0;permit 0;needs 1 1;");
        check.same("from it none, to it one", z.counts(0, 0, 3), 4);
        check.same("read by 1", z.counts(0, NONE, 1), 1);
        check.same("read by 3", z.counts(0, NONE, 3), 1);
        check.same("read by 0", z.counts(0, NONE, 0), 3);
    }

    private static void lands() {
        ElsewhereStamps x = Tape.withRail(Tales.RAIL);
        int[][] due = {{0, 17}, {1, 0}, {2, 1}, {3, NONE}, {9, NONE}, {10, 7}, {11, 7}, {12, 7}, {13, NONE}, {-1, NONE}};
        for (int[] row : due) {
            check.same("lands " + row[0], x.lands(0, row[0]), row[1]);
        }
        check.same("rail 1", x.lands(1, 0), NONE);
        for (int odd : ODD) {
            check.same("odd", x.lands(odd, 0), NONE);
            check.same("odd", x.lands(0, odd), NONE);
        }
        ElsewhereStamps y = Tape.withRail("lands 6;train 0 1 0 1;train 1 2 0 1;train 3 1 0 1;");
        check.same("widest", y.lands(0, 0), 13);
        check.same("hub", y.lands(0, 1), 1);
        check.same("none left", y.lands(0, 2), 0);
        check.same("reach 0", y.lands(0, 10), 7);
        check.same("reach 3", y.lands(0, 13), 14);
        check.same("reach 5", y.lands(0, 15), 32);
        ElsewhereStamps z = Tape.withRail(Tales.NO_TRAINS);
        check.same("no two lands", z.lands(0, 0), 0);
        check.same("the least hub", z.lands(0, 1), 0);
        check.same("nothing left", z.lands(0, 2), 0);
    }

    private static void trains() {
        ElsewhereStamps x = Tape.withRail(Tales.RAIL);
        check.same("key", x.trains(0, 0), 0);
        check.same("how much", x.trains(0, 1), 3019);
        check.same("spare", x.trains(0, 2), 0);
        check.same("what 3", x.trains(0, 3), NONE);
        check.same("what -1", x.trains(0, -1), NONE);
        check.same("rail 1", x.trains(1, 0), NONE);
        for (int odd : ODD) {
            check.same("odd", x.trains(odd, 0), NONE);
            check.same("odd", x.trains(0, odd), NONE);
        }
        ElsewhereStamps y = Tape.withRail(Tales.NO_TRAINS);
        check.same("no key", y.trains(0, 0), NONE);
        check.same("no key, how much", y.trains(0, 1), NONE);
        check.same("none to spare", y.trains(0, 2), 0);
        // Two alike: each can be spared, and is as good a key as the other one.
        ElsewhereStamps z = Tape.withRail("lands 2;train 0 1 0 2;train 0 1 0 2;train 0 1 4 9;train 0 1 11 3;");
        // The one at 11 comes at 14, as the next one at 12 does; the one at 4 comes at 13, and nothing else does.
        check.same("spare", z.trains(0, 2), 11);
        check.same("key of several", z.trains(0, 0), 0);
        check.same("key how much", z.trains(0, 1), 1001);
    }

    private static void latest() {
        ElsewhereStamps x = Tape.withRail(Tales.RAIL);
        int[][] due = {{0, 2, 8, 2}, {0, 2, 7, NONE}, {0, 2, 19, 2}, {0, 2, 20, 14}, {1, 2, 20, 18}, {1, 1, 50, 50},
            {0, 0, 0, 0}, {0, 1, 99, 86}, {0, 1, 100, NONE}, {0, 1, -1, NONE}, {0, 3, 50, NONE}, {3, 0, 50, NONE},
            {-1, 0, 50, NONE}, {0, -1, 50, NONE}};
        for (int[] row : due) {
            check.same("latest " + row[0] + " " + row[1] + " " + row[2], x.latest(0, row[0], row[1], row[2]), row[3]);
        }
        check.same("rail 1", x.latest(1, 0, 0, 5), NONE);
        for (int odd : ODD) {
            check.same("odd", x.latest(odd, 0, 0, 5), NONE);
            check.same("odd", x.latest(0, odd, 0, 5), NONE);
            check.same("odd", x.latest(0, 0, odd, 5), NONE);
        }
        check.same("never", Tape.withRail(Tales.NO_TRAINS).latest(0, 0, 1, 99), NONE);
    }

    private static void board() {
        ElsewhereStamps x = Tape.withRail(Tales.RAIL);
        int[][] due = {{1, 6, 0, 2}, {1, 6, 1, 1}, {1, 6, 2, NONE}, {1, 5, 0, 1}, {1, 5, 1, 2}, {1, 99, 0, 1},
            {1, 99, 1, 2}, {1, 100, 0, NONE}, {1, -1, 0, NONE}, {1, 6, -1, NONE}, {0, 0, 0, 0}, {0, 0, 1, NONE},
            {3, 0, 0, NONE}, {-1, 0, 0, NONE}};
        for (int[] row : due) {
            check.same("board " + row[0] + " " + row[1] + " " + row[2], x.board(0, row[0], row[1], row[2]), row[3]);
        }
        check.same("rail 1", x.board(1, 0, 0, 0), NONE);
        for (int odd : ODD) {
            check.same("odd", x.board(odd, 1, 6, 0), NONE);
            check.same("odd", x.board(0, odd, 6, 0), NONE);
            check.same("odd", x.board(0, 1, 6, odd), NONE);
        }
        ElsewhereStamps y = Tape.withRail("train 0 1 7 1;train 0 2 3 1;train 0 1 3 9;");
        check.same("of one hour the least", y.board(0, 0, 0, 0), 1);
        check.same("of one hour the next", y.board(0, 0, 0, 1), 2);
        check.same("the last", y.board(0, 0, 0, 2), 0);
    }

    private static void gathered() {
        ElsewhereStamps x = Tape.withRail(Tales.RAIL);
        check.same("gathered", x.gathered(0, false), 5);
        check.same("its land", x.gathered(0, true), 1);
        check.same("rail 1", x.gathered(1, false), NONE);
        check.same("rail -1", x.gathered(-1, true), NONE);
        check.same("no clerks", Tape.withRail("").gathered(0, false), NONE);
        check.same("no clerks, land", Tape.withRail("").gathered(0, true), NONE);
        ElsewhereStamps y = Tape.withRail("clerk 0 0;clerk 0 1;");
        check.same("never", y.gathered(0, false), NONE);
        check.same("never, land", y.gathered(0, true), NONE);
        ElsewhereStamps z = Tape.withRail("train 0 2 4 5;train 1 2 7 1;train 2 1 10 1;clerk 0 0;clerk 0 1;clerk 0 2;clerk 1 1;");
        check.same("all four", z.gathered(0, false), 9);
        check.same("all four in one land", z.gathered(0, true), 2);
        check.same("one alone", Tape.withRail("clerk 1 2;").gathered(0, true), 2);
    }
}
