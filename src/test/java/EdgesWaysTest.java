/** The boundary cases of promises 10, 13 to 16, 18, 22 to 26, with terms 3 and 6, sentence by sentence. */
public final class EdgesWaysTest {
    private static final int NONE = ElsewhereStamps.NONE;
    private static final int LEAST = Integer.MIN_VALUE;
    private static final int MOST = Integer.MAX_VALUE;
    private static final int[] NO_RAILS = {LEAST, -2, -1, 1, 2, 3, MOST};
    private static final int[] NO_LANDS = {LEAST, -2, -1, 6, 7, 64, MOST};
    private static final int[] NO_HOURS = {LEAST, -100, -2, -1, 100, 101, 1000, MOST};
    private static final boolean[] BOTH = {false, true};
    private static final Check check = new Check("EdgesWaysTest");
    /** SOONEST at HOUR 0 on the full RAIL, by LANDS: once round by an HOUR each, and the first TRAIN is gone at 1. */
    private static final int[][] SOONEST = {{0, 1, 2, 3, 4, 5}, {6, 0, 2, 3, 4, 5}, {6, 13, 0, 3, 4, 5}, {6, 13, 14, 0, 4, 5},
        {6, 13, 14, 15, 0, 5}, {6, 13, 14, 15, 16, 0}};

    private EdgesWaysTest() {
    }

    public static void main(String[] args) {
        days();
        soonestHours();
        soonestFirstTrain();
        soonestRefused();
        longWays();
        meeting();
        meetingRefused();
        offices();
        officesRefused();
        cut();
        cutTakes();
        cutRefused();
        mean();
        meanRefused();
        counts();
        read();
        countsRefused();
        widest();
        hub();
        reach();
        key();
        spare();
        trainsRefused();
        latest();
        latestRefused();
        board();
        boardRefused();
        gathered();
        gatheredRefused();
        rowsAreForgotten();
        check.finish();
    }

    private static void days() {
        check.sentence("A DAY has 12 HOURS; a TRAIN leaves at its HOUR on each DAY.");
        for (int leaves = 0; leaves < 12; leaves++) {
            for (int takes : new int[] {1, 11, 12, 13, 23, 24}) {
                ElsewhereStamps x = Tape.withRail("train 0 1 " + leaves + " " + takes + ";");
                for (int hour = 0; hour < 100; hour++) {
                    int leave = hour;
                    while (leave % 12 != leaves) {
                        leave++;
                    }
                    String name = "leaves " + leaves + " takes " + takes + " hour " + hour;
                    check.same(name, x.soonest(0, 0, hour, 1, false), leave + takes);
                    check.same(name + " mean", x.mean(0, 0, hour, 0, false), leave + takes);
                }
            }
        }
    }

    private static void soonestHours() {
        check.sentence("SOONEST from a LAND at an HOUR, 0 .. 99, to a LAND: the least HOUR at which one can be there");
        ElsewhereStamps x = Tape.withRail(Tales.full());
        for (int from = 0; from < 6; from++) {
            for (int to = 0; to < 6; to++) {
                check.same("from " + from + " to " + to, x.soonest(0, from, 0, to, false), SOONEST[from][to]);
                check.same("eight days later", x.soonest(0, from, 96, to, false), 96 + SOONEST[from][to]);
            }
            check.same("in this hour", x.soonest(0, from, from, (from + 1) % 6, false), from + 1);
            check.same("an hour later", x.soonest(0, from, from + 1, (from + 1) % 6, false), from + 13);
        }
        check.same("at 99, from 5 to 0", x.soonest(0, 5, 99, 0, false), 102);
        check.same("at 99, from 5 to 4", x.soonest(0, 5, 99, 4, false), 112);
        check.same("there at 99", x.soonest(0, 5, 99, 5, false), 99);
        check.same("there at 0", x.soonest(0, 0, 0, 0, false), 0);
    }

    private static void soonestFirstTrain() {
        check.sentence("the TRAIN that is taken first, of several by which it is so soon the least (none, if one is there)");
        ElsewhereStamps x = Tape.withRail(Tales.full());
        for (int from = 0; from < 6; from++) {
            for (int to = 0; to < 6; to++) {
                check.same("first of " + from + " " + to, x.soonest(0, from, 0, to, true), from == to ? NONE : from);
            }
        }
        check.same("there at 99", x.soonest(0, 3, 99, 3, true), NONE);
        ElsewhereStamps y = Tape.withRail("lands 2;" + "train 0 1 3 4;".repeat(12));
        check.same("all twelve alike", y.soonest(0, 0, 0, 1, true), 0);
        ElsewhereStamps z = Tape.withRail("lands 2;" + "train 0 1 3 5;".repeat(11) + "train 0 1 3 4;");
        check.same("the twelfth alone", z.soonest(0, 0, 0, 1, true), 11);
        check.same("its hour", z.soonest(0, 0, 0, 1, false), 7);
        // As soon by one that leaves sooner and takes longer.
        ElsewhereStamps w = Tape.withRail("train 0 1 6 2;train 0 1 2 6;train 0 1 7 2;");
        check.same("both at 8", w.soonest(0, 0, 0, 1, true), 0);
        check.same("at 7 the last is soonest", w.soonest(0, 0, 7, 1, true), 2);
    }

    private static void soonestRefused() {
        check.sentence("-2: never, or there is none such (of any). (soonest)");
        ElsewhereStamps x = Tape.withRail(Tales.full());
        ElsewhereStamps y = Tape.withRail("train 0 1 0 1;");
        for (boolean train : BOTH) {
            for (int rail : NO_RAILS) {
                check.same("rail " + rail, x.soonest(rail, 0, 0, 1, train), -2);
            }
            for (int land : NO_LANDS) {
                check.same("from " + land, x.soonest(0, land, 0, 1, train), -2);
                check.same("to " + land, x.soonest(0, 0, 0, land, train), -2);
                check.same("both " + land, x.soonest(0, land, 0, land, train), -2);
            }
            for (int hour : NO_HOURS) {
                check.same("hour " + hour, x.soonest(0, 0, hour, 1, train), -2);
                check.same("hour " + hour + ", there", x.soonest(0, 1, hour, 1, train), -2);
            }
            check.same("never back", y.soonest(0, 1, 0, 0, train), -2);
            check.same("never to 2", y.soonest(0, 0, 99, 2, train), -2);
            check.same("land 3 of three", y.soonest(0, 0, 0, 3, train), -2);
        }
    }

    private static void longWays() {
        check.sentence("by TRAINS one behind the other (waiting in LANDS)");
        // Five TRAINS, each of which leaves in the HOUR before one comes: 24 HOURS and 11 of waiting each.
        ElsewhereStamps x = Tape.withRail("lands 6;train 4 5 7 24;train 3 4 8 24;train 2 3 9 24;train 1 2 10 24;train 0 1 11 24;");
        int[] due = {0, 35, 70, 105, 140, 175};
        for (int to = 0; to < 6; to++) {
            check.same("to " + to, x.soonest(0, 0, 0, to, false), due[to]);
            check.same("reach of " + to, x.lands(0, 10 + to), 63 & ~((1 << to) - 1));
        }
        check.same("at 84", x.soonest(0, 0, 84, 5, false), 259);
        check.same("the first", x.soonest(0, 0, 0, 5, true), 4);
        check.same("the widest", x.lands(0, 0), 175);
        check.same("uncut", x.cut(0, 0, 0, 5, false), 175);
        check.same("by 99 to 2", x.latest(0, 0, 2, 99), 35);
        check.same("by 99 to 3", x.latest(0, 0, 3, 99), NONE);
    }

    private static void meeting() {
        check.sentence("the least HOUR at which both can stand in one LAND; the LAND, of several the least.");
        ElsewhereStamps x = Tape.withRail(Tales.full());
        int[][] hours = {{0, 5, 0, 5}, {5, 0, 5, 0}, {0, 5, 0, 5}, {5, 0, 5, 0}};
        int[][] lands = {{0, 5, 0, 5}, {5, 5, 5, 5}, {0, 5, 0, 5}, {5, 5, 5, 5}};
        for (int a = 0; a < 4; a++) {
            for (int b = 0; b < 4; b++) {
                check.same("meeting " + a + " " + b, x.meeting(0, a, b, false), hours[a][b]);
                check.same("land of " + a + " " + b, x.meeting(0, a, b, true), lands[a][b]);
            }
        }
        // Both can be in any of 1 to 5 at 1: the least; in 0 they could be at 24.
        StringBuilder rail = new StringBuilder("lands 6;clerk 0 0;clerk 0 1;train 1 0 0 24;");
        for (int to = 2; to < 6; to++) {
            rail.append(Tales.line("train", 0, to, 0, 1)).append(Tales.line("train", 1, to, 0, 1));
        }
        ElsewhereStamps y = Tape.withRail(rail.toString());
        check.same("of several the least", y.meeting(0, 0, 1, true), 2);
        check.same("its hour", y.meeting(0, 0, 1, false), 1);
    }

    private static void meetingRefused() {
        check.sentence("NONE: never, or there is none such (of any). (meeting)");
        ElsewhereStamps x = Tape.withRail(Tales.full());
        ElsewhereStamps y = Tape.withRail("clerk 0 0;clerk 0 1;train 0 2 0 1;");
        ElsewhereStamps z = Tape.withRail("");
        for (boolean land : BOTH) {
            for (int rail : NO_RAILS) {
                check.same("rail " + rail, x.meeting(rail, 0, 1, land), NONE);
            }
            for (int clerk : new int[] {LEAST, -2, -1, 4, 5, 32, MOST}) {
                check.same("clerk " + clerk, x.meeting(0, clerk, 1, land), NONE);
                check.same("other clerk " + clerk, x.meeting(0, 1, clerk, land), NONE);
                check.same("both " + clerk, x.meeting(0, clerk, clerk, land), NONE);
            }
            check.same("never", y.meeting(0, 0, 1, land), NONE);
            check.same("never, turned", y.meeting(0, 1, 0, land), NONE);
            check.same("no third clerk", y.meeting(0, 0, 2, land), NONE);
            check.same("no clerks", z.meeting(0, 0, 0, land), NONE);
        }
    }

    private static void offices() {
        check.sentence("OFFICES of n, 1 .. 6: n LANDS (bits) such that .. together, least, of several the least bits");
        ElsewhereStamps x = Tape.withRail(Tales.full());
        check.same("one: land 5", x.offices(0, 1, false), 32);
        check.same("one: 25 hours", x.offices(0, 1, true), 25);
        // Without land 0 alone it is one HOUR, to land 1.
        check.same("five", x.offices(0, 5, false), 62);
        check.same("five: 1 hour", x.offices(0, 5, true), 1);
        check.same("six", x.offices(0, 6, false), 63);
        check.same("six: at once", x.offices(0, 6, true), 0);
        ElsewhereStamps y = Tape.withRail("lands 2;train 0 1 0 7;train 1 0 0 7;");
        check.same("of several the least bits", y.offices(0, 1, false), 1);
        check.same("how much", y.offices(0, 1, true), 7);
        check.same("both", y.offices(0, 2, false), 3);
        check.sentence("(all must come to one)");
        ElsewhereStamps z = Tape.withRail("lands 4;train 0 3 0 24;train 1 3 0 24;train 3 0 11 24;");
        check.same("land 2 is alone", z.offices(0, 1, false), NONE);
        check.same("land 2 is alone, hours", z.offices(0, 1, true), NONE);
        check.same("2 and 3", z.offices(0, 2, false), 12);
        check.same("24 each", z.offices(0, 2, true), 48);
        ElsewhereStamps w = Tape.withRail("lands 6;");
        for (int n = 1; n <= 6; n++) {
            check.same("without trains " + n, w.offices(0, n, false), n == 6 ? 63 : NONE);
            check.same("without trains, hours " + n, w.offices(0, n, true), n == 6 ? 0 : NONE);
        }
    }

    private static void officesRefused() {
        check.sentence("NONE: not so that all come to one, n is above LANDS, another n, or there is none such.");
        for (int lands = 2; lands <= 6; lands++) {
            ElsewhereStamps x = Tape.withRail("lands " + lands + ";");
            for (boolean hours : BOTH) {
                check.same("as many as lands", x.offices(0, lands, hours), hours ? 0 : (1 << lands) - 1);
                check.same("n above lands", x.offices(0, lands + 1, hours), NONE);
                for (int n : new int[] {LEAST, -6, -1, 0, 7, 8, MOST}) {
                    check.same("n " + n, x.offices(0, n, hours), NONE);
                }
                for (int rail : NO_RAILS) {
                    check.same("rail " + rail, x.offices(rail, 1, hours), NONE);
                }
            }
        }
    }

    private static void cut() {
        check.sentence("two ministers by turns each take a TRAIN away (or none), n times in all");
        ElsewhereStamps x = Tape.withRail(Tales.full());
        int[] due = {5, 35, 35, 999};
        for (int n = 0; n <= 3; n++) {
            check.same("cut " + n, x.cut(0, n, 0, 5, false), due[n]);
            check.same("first of cut " + n, x.cut(0, n, 0, 5, true), n == 0 ? NONE : 0);
        }
        // Three ways: one cut leaves the second, the third turn the last one.
        ElsewhereStamps y = Tape.withRail("train 0 1 0 9;train 0 1 0 3;train 0 1 0 6;");
        int[] hours = {3, 6, 6, 9};
        int[] takes = {NONE, 1, 1, 1};
        for (int n = 0; n <= 3; n++) {
            check.same("three ways, cut " + n, y.cut(0, n, 0, 1, false), hours[n]);
            check.same("three ways, first of cut " + n, y.cut(0, n, 0, 1, true), takes[n]);
        }
        check.sentence("(first) what the first takes (NONE: n is 0).");
        check.same("nothing is taken", x.cut(0, 0, 0, 5, true), NONE);
        check.same("nothing is taken where one is", x.cut(0, 0, 5, 5, true), NONE);
        check.same("nothing is taken where one never comes", Tape.withRail("train 1 0 0 1;").cut(0, 0, 0, 1, true), NONE);
        check.sentence("(never is the latest, 999)");
        ElsewhereStamps z = Tape.withRail("lands 2;train 1 0 0 1;" + "train 0 1 0 1;".repeat(2));
        check.same("never, uncut", Tape.withRail("").cut(0, 0, 0, 1, false), 999);
        check.same("two alike, one cut", z.cut(0, 1, 0, 1, false), 1);
        check.same("two alike, three turns", z.cut(0, 3, 0, 1, false), 999);
        check.same("he must begin with one of them", z.cut(0, 3, 0, 1, true), 1);
    }

    private static void cutTakes() {
        check.sentence("what the first takes, the least TRAIN that is best (12: none).");
        ElsewhereStamps none = Tape.withRail("");
        for (int n = 0; n <= 3; n++) {
            check.same("no trains " + n, none.cut(0, n, 0, 1, true), n == 0 ? NONE : 12);
            check.same("no trains, there " + n, none.cut(0, n, 2, 2, true), n == 0 ? NONE : 12);
            check.same("no trains, hour " + n, none.cut(0, n, 2, 2, false), 0);
            ElsewhereStamps x = Tape.withRail(Tales.full());
            check.same("one is there, any is best " + n, x.cut(0, n, 3, 3, true), n == 0 ? NONE : 0);
            check.same("one is there " + n, x.cut(0, n, 3, 3, false), 0);
        }
        ElsewhereStamps last = Tape.withRail("lands 2;" + "train 0 1 0 5;".repeat(11) + "train 0 1 0 4;");
        check.same("the twelfth", last.cut(0, 1, 0, 1, true), 11);
        check.same("the twelfth, hour", last.cut(0, 1, 0, 1, false), 5);
        check.same("never, cut or not: the least", Tape.withRail("train 1 2 0 1;").cut(0, 1, 0, 1, true), 0);
    }

    private static void cutRefused() {
        check.sentence("-2: another n, or there is none such (of any).");
        ElsewhereStamps x = Tape.withRail(Tales.full());
        for (boolean first : BOTH) {
            for (int n : new int[] {LEAST, -2, -1, 4, 5, MOST}) {
                check.same("n " + n, x.cut(0, n, 0, 1, first), -2);
            }
            for (int n = 0; n <= 3; n++) {
                for (int rail : NO_RAILS) {
                    check.same("rail " + rail, x.cut(rail, n, 0, 1, first), -2);
                }
                for (int land : NO_LANDS) {
                    check.same("from " + land, x.cut(0, n, land, 1, first), -2);
                    check.same("to " + land, x.cut(0, n, 0, land, first), -2);
                }
            }
        }
    }

    private static void mean() {
        check.sentence("MEAN of a TRAIN, an HOUR, 0 .. 99, p, 0 .. 9");
        ElsewhereStamps x = Tape.withRail(Tales.full());
        // At 0 the last TRAIN would be there at 35; each time it does not leave is 12 HOURS more.
        long[][] due = {{35, 1}, {109, 3}, {38, 1}, {281, 7}, {43, 1}, {47, 1}, {53, 1}, {63, 1}, {83, 1}, {143, 1}};
        for (int p = 0; p <= 9; p++) {
            check.same("N, p " + p, x.mean(0, 11, 0, p, false), due[p][0]);
            check.same("D, p " + p, x.mean(0, 11, 0, p, true), due[p][1]);
            check.same("N at 11, p " + p, x.mean(0, 11, 11, p, false), due[p][0]);
            check.same("N at 12, p " + p, x.mean(0, 11, 12, p, false), due[p][0] + 12 * due[p][1]);
            check.same("D at 99, p " + p, x.mean(0, 11, 99, p, true), due[p][1]);
            check.same("N at 99, p " + p, x.mean(0, 11, 99, p, false), due[p][0] + 96 * due[p][1]);
        }
        check.same("the first train at 0", x.mean(0, 0, 0, 0, false), 1);
        check.same("the first train at 1", x.mean(0, 0, 1, 0, false), 13);
        check.same("the first train at 0 by nine of ten", x.mean(0, 0, 0, 9, false), 109);
    }

    private static void meanRefused() {
        check.sentence("NONE: other numbers, or there is none such (of either). (mean)");
        ElsewhereStamps x = Tape.withRail(Tales.full());
        ElsewhereStamps y = Tape.withRail("");
        for (boolean under : BOTH) {
            for (int rail : NO_RAILS) {
                check.same("rail " + rail, x.mean(rail, 0, 0, 0, under), NONE);
            }
            for (int train : new int[] {LEAST, -1, 12, 13, MOST}) {
                check.same("train " + train, x.mean(0, train, 0, 0, under), NONE);
            }
            for (int hour : NO_HOURS) {
                check.same("hour " + hour, x.mean(0, 0, hour, 0, under), NONE);
            }
            for (int p : new int[] {LEAST, -1, 10, 11, MOST}) {
                check.same("p " + p, x.mean(0, 0, 0, p, under), NONE);
            }
            check.same("no trains", y.mean(0, 0, 0, 0, under), NONE);
        }
    }

    private static void counts() {
        check.sentence("COUNTS of a LAND, a reading of elsewhere");
        ElsewhereStamps x = Tape.withRail(Tales.full());
        ElsewhereStamps y = Tape.withRail("lands 6;");
        for (int land = 0; land < 6; land++) {
            int others = 63 & ~(1 << land);
            int beside = 1 << (land + 1) % 6 | 1 << (land + 5) % 6;
            int[] due = {others, beside, others, others & ~beside};
            int[] without = {others, 0, 0, others};
            for (int reading = 0; reading < 4; reading++) {
                check.same("full " + land + " " + reading, x.counts(0, land, reading), due[reading]);
                check.same("without trains " + land + " " + reading, y.counts(0, land, reading), without[reading]);
            }
        }
        // One way, by a third LAND: one can come there, no TRAIN goes there.
        ElsewhereStamps z = Tape.withRail("train 0 1 0 1;train 1 2 0 1;");
        int[][] due = {{6, 2, 6, 4}, {5, 4, 4, 0}, {3, 0, 0, 1}};
        for (int land = 0; land < 3; land++) {
            for (int reading = 0; reading < 4; reading++) {
                check.same("one way " + land + " " + reading, z.counts(0, land, reading), due[land][reading]);
            }
        }
    }

    private static void read() {
        check.sentence("READ of a reading: PERMITS (bits) all of whose needed LANDS are elsewhere so for their own.");
        ElsewhereStamps x = Tape.withRail(Tales.full());
        int[] due = {255, 63, 255, 62};
        for (int reading = 0; reading < 4; reading++) {
            check.same("full, reading " + reading, x.counts(0, NONE, reading), due[reading]);
            check.same("no permits", Tape.withRail("").counts(0, NONE, reading), 0);
            check.same("none needed", Tape.withRail("permit 0;".repeat(8)).counts(0, NONE, reading), 255);
        }
    }

    private static void countsRefused() {
        check.sentence("NONE: another reading, or there is none such (of either). (counts)");
        ElsewhereStamps x = Tape.withRail(Tales.full());
        for (int reading : new int[] {LEAST, -2, -1, 4, 5, MOST}) {
            check.same("reading " + reading, x.counts(0, 0, reading), NONE);
            check.same("read, reading " + reading, x.counts(0, NONE, reading), NONE);
        }
        for (int reading = 0; reading < 4; reading++) {
            for (int rail : NO_RAILS) {
                check.same("rail " + rail, x.counts(rail, 0, reading), NONE);
                check.same("read, rail " + rail, x.counts(rail, NONE, reading), NONE);
            }
            for (int land : new int[] {LEAST, -3, -2, 6, 7, MOST}) {
                check.same("land " + land, x.counts(0, land, reading), NONE);
            }
            check.same("land 2 of two", Tape.withRail("lands 2;").counts(0, 2, reading), NONE);
        }
    }

    private static void widest() {
        check.sentence("WIDEST: the greatest SOONEST of any two LANDS at HOUR 0, of which one can come from the one to the other.");
        check.same("full", Tape.withRail(Tales.full()).lands(0, 0), 16);
        check.same("no trains", Tape.withRail("").lands(0, 0), 0);
        check.same("one train", Tape.withRail("train 2 0 11 24;").lands(0, 0), 35);
        check.same("from the first land", Tape.withRail("train 0 2 11 24;train 1 2 0 1;").lands(0, 0), 35);
        check.same("to the first land", Tape.withRail("train 1 0 11 24;train 2 1 0 1;").lands(0, 0), 35);
        check.same("to the last land", Tape.withRail("lands 6;train 4 5 11 24;train 0 1 0 1;").lands(0, 0), 35);
    }

    private static void hub() {
        check.sentence("HUB: the LAND without whose TRAINS (from it and to it) fewest couples of other LANDS .. are left");
        ElsewhereStamps x = Tape.withRail(Tales.full());
        check.same("full: all alike, the least", x.lands(0, 1), 0);
        check.same("full: all couples of five", x.lands(0, 2), 20);
        for (int lands = 2; lands <= 6; lands++) {
            ElsewhereStamps y = Tape.withRail("lands " + lands + ";");
            check.same("no trains: the least", y.lands(0, 1), 0);
            check.same("no trains: none left", y.lands(0, 2), 0);
        }
        ElsewhereStamps two = Tape.withRail("lands 2;train 0 1 0 1;train 1 0 0 1;");
        check.same("two lands, the least", two.lands(0, 1), 0);
        check.same("two lands, none left", two.lands(0, 2), 0);
        // From land 5 to the others and back.
        StringBuilder star = new StringBuilder("lands 6;");
        for (int land = 0; land < 5; land++) {
            star.append(Tales.line("train", land, 5, 0, 1)).append(Tales.line("train", 5, land, 0, 1));
        }
        check.same("the last land", Tape.withRail(star.toString()).lands(0, 1), 5);
        check.same("none left", Tape.withRail(star.toString()).lands(0, 2), 0);
        // One can come from the one to the other, not back: one couple each; without 0 there is one, without 1 none.
        ElsewhereStamps chain = Tape.withRail("train 0 1 0 1;train 1 2 0 1;");
        check.same("the middle of a chain", chain.lands(0, 1), 1);
        ElsewhereStamps longer = Tape.withRail("lands 4;train 3 2 0 1;train 2 1 0 1;train 1 0 0 1;");
        check.same("the first of two alike", longer.lands(0, 1), 1);
        check.same("one left", longer.lands(0, 2), 1);
    }

    private static void reach() {
        check.sentence("REACH of a LAND: LANDS (bits) to which one can come from it (itself, too).");
        for (int lands = 2; lands <= 6; lands++) {
            ElsewhereStamps x = Tape.withRail("lands " + lands + ";");
            for (int l = 0; l < 10; l++) {
                check.same("without trains " + l, x.lands(0, 10 + l), l < lands ? 1 << l : NONE);
            }
        }
        check.same("from the last", Tape.withRail(Tales.full()).lands(0, 15), 63);
        check.sentence("NONE: there is none such (of either), or for another what. (lands)");
        ElsewhereStamps x = Tape.withRail(Tales.full());
        for (int what : new int[] {LEAST, -10, -1, 3, 4, 9, 16, 17, 20, 100, MOST}) {
            check.same("what " + what, x.lands(0, what), NONE);
        }
        for (int rail : NO_RAILS) {
            for (int what : new int[] {0, 1, 2, 10}) {
                check.same("rail " + rail, x.lands(rail, what), NONE);
            }
        }
    }

    private static void key() {
        check.sentence("KEY: the TRAIN by whose being taken away SOONEST of all couples .. together (999 for never) is most");
        ElsewhereStamps x = Tape.withRail("lands 2;train 1 0 3 4;");
        check.same("the only one", x.trains(0, 0), 0);
        check.same("never and never", x.trains(0, 1), 1998);
        ElsewhereStamps y = Tape.withRail("lands 2;" + "train 0 1 0 1;".repeat(12));
        check.same("twelve alike: the least", y.trains(0, 0), 0);
        check.same("as soon as before", y.trains(0, 1), 1000);
        ElsewhereStamps z = Tape.withRail("lands 2;" + "train 0 1 0 1;".repeat(11) + "train 1 0 0 1;");
        check.same("the twelfth", z.trains(0, 0), 11);
        check.same("never back", z.trains(0, 1), 1000);
        ElsewhereStamps w = Tape.withRail("lands 6;train 0 1 0 1;");
        check.same("six lands, none to come to", w.trains(0, 1), 30 * 999);
    }

    private static void spare() {
        check.sentence("SPARE: TRAINS (bits) without each of which SOONEST of all couples at each HOUR 0 .. 11 is as it was.");
        check.same("twelve alike", Tape.withRail("lands 2;" + "train 0 1 0 1;".repeat(12)).trains(0, 2), 4095);
        check.same("eleven of twelve", Tape.withRail("lands 2;" + "train 0 1 0 1;".repeat(11) + "train 1 0 0 1;").trains(0, 2), 2047);
        check.same("none to spare", Tape.withRail("train 0 1 0 1;train 1 2 0 1;train 2 0 0 1;").trains(0, 2), 0);
        // The first DAY's last HOUR alone tells that the one at 11 is wanted.
        check.same("at hour 11", Tape.withRail("lands 2;train 0 1 0 2;train 0 1 11 2;").trains(0, 2), 0);
        check.same("an hour later by the next", Tape.withRail("lands 2;train 0 1 0 1;train 0 1 11 2;").trains(0, 2), 2);
        // By another LAND it is as soon; by one HOUR more it is not.
        check.same("round about as soon", Tape.withRail("train 0 1 0 6;train 0 2 0 2;train 2 1 3 3;").trains(0, 2), 1);
        check.same("round about later", Tape.withRail("train 0 1 0 5;train 0 2 0 2;train 2 1 3 3;").trains(0, 2), 0);
    }

    private static void trainsRefused() {
        check.sentence("NONE: there is none such, no TRAINS (0, 1), or for another what.");
        ElsewhereStamps x = Tape.withRail("");
        check.same("no key", x.trains(0, 0), NONE);
        check.same("no hours", x.trains(0, 1), NONE);
        check.same("none to spare", x.trains(0, 2), 0);
        ElsewhereStamps y = Tape.withRail(Tales.full());
        for (int what : new int[] {LEAST, -2, -1, 3, 4, 10, MOST}) {
            check.same("what " + what, y.trains(0, what), NONE);
            check.same("no trains, what " + what, x.trains(0, what), NONE);
        }
        for (int rail : NO_RAILS) {
            for (int what = 0; what < 3; what++) {
                check.same("rail " + rail, y.trains(rail, what), NONE);
            }
        }
    }

    private static void latest() {
        check.sentence("the latest HOUR, at least 0, at which one can still be in the one, so as to be in the other at that HOUR or sooner.");
        ElsewhereStamps x = Tape.withRail(Tales.full());
        for (int by = 0; by < 100; by++) {
            check.same("there, by " + by, x.latest(0, 4, 4, by), by);
            // The first TRAIN leaves at 0, 12, .. and is there an HOUR later.
            int due = by == 0 ? NONE : (by - 1) / 12 * 12;
            check.same("from 0 to 1 by " + by, x.latest(0, 0, 1, by), due);
            // It leaves at 4, and is there at 5 for the first time.
            int late = by < 5 ? NONE : (by - 5) / 12 * 12 + 4;
            check.same("from 4 to 5 by " + by, x.latest(0, 4, 5, by), late);
        }
        ElsewhereStamps y = Tape.withRail("train 0 1 11 24;");
        check.same("by 34", y.latest(0, 0, 1, 34), NONE);
        check.same("by 35", y.latest(0, 0, 1, 35), 11);
        check.same("by 46", y.latest(0, 0, 1, 46), 11);
        check.same("by 47", y.latest(0, 0, 1, 47), 23);
        check.same("by 99", y.latest(0, 0, 1, 99), 71);
    }

    private static void latestRefused() {
        check.sentence("NONE: never, or there is none such (of any), or another HOUR.");
        ElsewhereStamps x = Tape.withRail(Tales.full());
        for (int rail : NO_RAILS) {
            check.same("rail " + rail, x.latest(rail, 0, 0, 9), NONE);
        }
        for (int land : NO_LANDS) {
            check.same("from " + land, x.latest(0, land, 0, 9), NONE);
            check.same("to " + land, x.latest(0, 0, land, 9), NONE);
            check.same("both " + land, x.latest(0, land, land, 9), NONE);
        }
        for (int hour : NO_HOURS) {
            check.same("by " + hour, x.latest(0, 0, 1, hour), NONE);
            check.same("there, by " + hour, x.latest(0, 1, 1, hour), NONE);
        }
        check.same("never", Tape.withRail("train 0 1 0 1;").latest(0, 1, 0, 99), NONE);
    }

    private static void board() {
        check.sentence("TRAINS that go from it by when they leave next, of several at one HOUR the least number first: the k-th.");
        ElsewhereStamps x = Tape.withRail(Tales.full());
        for (int hour = 0; hour < 100; hour++) {
            boolean now = hour % 12 == 0;
            check.same("first at " + hour, x.board(0, 0, hour, 0), now ? 0 : 11);
            check.same("second at " + hour, x.board(0, 0, hour, 1), now ? 11 : 0);
            check.same("no third at " + hour, x.board(0, 0, hour, 2), NONE);
        }
        StringBuilder rail = new StringBuilder();
        for (int t = 0; t < 12; t++) {
            rail.append(Tales.line("train", 2, t % 2, 11 - t, 1));
        }
        ElsewhereStamps y = Tape.withRail(rail.toString());
        ElsewhereStamps z = Tape.withRail("train 2 1 7 1;".repeat(12));
        for (int hour = 0; hour < 100; hour++) {
            for (int k = 0; k < 12; k++) {
                check.same("each hour one, at " + hour + " k " + k, y.board(0, 2, hour, k), 11 - (hour + k) % 12);
                check.same("all at one hour, at " + hour + " k " + k, z.board(0, 2, hour, k), k);
            }
            check.same("no thirteenth", y.board(0, 2, hour, 12), NONE);
        }
        check.sentence("NONE: not so many, another HOUR, or there is none such (of either).");
        for (int k : new int[] {LEAST, -2, -1, 12, 13, 100, MOST}) {
            check.same("k " + k, y.board(0, 2, 0, k), NONE);
        }
        check.same("none goes from 0", y.board(0, 0, 0, 0), NONE);
        check.same("no trains", Tape.withRail("").board(0, 0, 0, 0), NONE);
    }

    private static void boardRefused() {
        check.sentence("BOARD of a LAND, an HOUR, 0 .. 99");
        ElsewhereStamps x = Tape.withRail(Tales.full());
        for (int rail : NO_RAILS) {
            check.same("rail " + rail, x.board(rail, 0, 0, 0), NONE);
        }
        for (int land : NO_LANDS) {
            check.same("land " + land, x.board(0, land, 0, 0), NONE);
        }
        for (int hour : NO_HOURS) {
            check.same("hour " + hour, x.board(0, 0, hour, 0), NONE);
        }
    }

    private static void gathered() {
        check.sentence("the least HOUR at which all CLERKS, each from where he is at first at HOUR 0, can stand in one LAND");
        ElsewhereStamps x = Tape.withRail(Tales.full());
        check.same("four", x.gathered(0, false), 5);
        check.same("four in land 5", x.gathered(0, true), 5);
        for (int land = 0; land < 3; land++) {
            ElsewhereStamps one = Tape.withRail("clerk 0 " + land + ";");
            check.same("one, at once", one.gathered(0, false), 0);
            check.same("one, where he is", one.gathered(0, true), land);
            ElsewhereStamps four = Tape.withRail(("clerk 0 " + land + ";").repeat(4));
            check.same("four, at once", four.gathered(0, false), 0);
            check.same("four, where they are", four.gathered(0, true), land);
        }
        // The fourth has the longest way.
        ElsewhereStamps late = Tape.withRail("train 1 0 11 24;clerk 0 0;clerk 0 0;clerk 0 0;clerk 0 1;");
        check.same("the fourth too", late.gathered(0, false), 35);
        check.same("of several lands the least", Tape.withRail("train 0 1 0 1;train 0 2 0 1;train 1 0 0 1;train 1 2 0 1;clerk 0 0;clerk 0 1;")
            .gathered(0, true), 0);
    }

    private static void gatheredRefused() {
        check.sentence("NONE: never, no CLERKS, or there is none such.");
        for (boolean land : BOTH) {
            check.same("no clerks", Tape.withRail("train 0 1 0 1;").gathered(0, land), NONE);
            check.same("never", Tape.withRail("clerk 0 0;clerk 0 0;clerk 0 0;clerk 0 1;").gathered(0, land), NONE);
            // Two by two they could, all together never.
            String rail = "lands 6;train 0 3 0 1;train 1 3 0 1;train 1 4 0 1;train 2 4 0 1;train 2 5 0 1;train 0 5 0 1;";
            check.same("not all together", Tape.withRail(rail + "clerk 0 0;clerk 0 1;clerk 0 2;").gathered(0, land), NONE);
            for (int odd : NO_RAILS) {
                check.same("rail " + odd, Tape.withRail(Tales.full()).gathered(odd, land), NONE);
            }
        }
    }

    /** What was worked out for one RAIL is not answered for another one in its place, nor for the second. */
    private static void rowsAreForgotten() {
        check.sentence("(Of a RAIL as told.)");
        ElsewhereStamps x = Tape.withRail("train 0 1 0 1;");
        Tape.tell(x, "train 0 1 0 2;", Tape.RAIL, NONE);
        x.image(0);
        for (int turn = 0; turn < 3; turn++) {
            check.same("the first", x.soonest(0, 0, 0, 1, false), 1);
            check.same("the second", x.soonest(1, 0, 0, 1, false), 2);
        }
        Tape.tell(x, "train 0 1 0 3;", Tape.RAIL, 0);
        check.same("another in its place", x.soonest(0, 0, 0, 1, false), 3);
        check.same("the second stays", x.soonest(1, 0, 0, 1, false), 2);
        Tape.tell(x, "train 0 1 0 9;lands 7;", Tape.RAIL, 0);
        check.same("a fault changes nothing", x.soonest(0, 0, 0, 1, false), 3);
        Tape.tell(x, "", Tape.RAIL, 1);
        check.same("never now", x.soonest(1, 0, 0, 1, false), -2);
        x.again(0);
        check.same("the first again", x.soonest(0, 0, 0, 1, false), 1);
        check.same("the second again", x.soonest(1, 0, 0, 1, false), 2);
    }
}
