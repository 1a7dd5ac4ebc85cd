/** Promises 8, 9, 11, 12, 17, 20, 21, 27 to 33: months, permits, laws and logs, worked out by hand. */
public final class PapersTest {
    private static final int NONE = ElsewhereStamps.NONE;
    private static final int[] ODD = {Integer.MIN_VALUE, -100, -3, 9, 1000, Integer.MAX_VALUE};
    private static final Check check = new Check("PapersTest");

    private PapersTest() {
    }

    public static void main(String[] args) {
        till();
        deedsThatCannotBe();
        lawsByTheHour();
        lastHours();
        state();
        duty();
        round();
        ring();
        could();
        drawn();
        orders();
        lacks();
        ledge();
        busy();
        certain();
        stuck();
        after();
        check.finish();
    }

    private static ElsewhereStamps withMonth(String rail, String month) {
        ElsewhereStamps x = Tape.withRail(rail);
        check.same("month '" + month + "'", Tape.tell(x, month, Tape.MONTH, NONE), 0);
        return x;
    }

    private static ElsewhereStamps withLog(String rail, String log) {
        ElsewhereStamps x = Tape.withRail(rail);
        check.same("log '" + log + "'", Tape.tell(x, log, Tape.LOG, NONE), 0);
        return x;
    }

    private static void till() {
        ElsewhereStamps x = withMonth(Tales.RAIL, Tales.MONTH);
        check.same("till", x.till(0, 0), 7);
        check.same("rail 1", x.till(1, 0), NONE);
        check.same("month 1", x.till(0, 1), NONE);
        check.same("month -1", x.till(0, -1), NONE);
        for (int odd : ODD) {
            check.same("odd", x.till(odd, 0), NONE);
            check.same("odd", x.till(0, odd), NONE);
        }
        check.same("no deeds", withMonth(Tales.RAIL, "").till(0, 0), 0);
        check.same("all deeds", withMonth(Tales.RAIL, "wait 0 1;".repeat(40)).till(0, 0), 40);
    }

    private static void cannot(String month, int end) {
        check.same("till of '" + month + "'", withMonth(Tales.RAIL, month).till(0, 0), end);
    }

    private static void deedsThatCannotBe() {
        cannot("wait 2 1;", 0);
        cannot("wait 1 1;wait 2 1;wait 1 1;", 1);
        cannot("ride 0 1;", 0);
        cannot("ride 0 4;", 0);
        cannot("ride 2 0;", 0);
        cannot("ride 0 0;ride 0 0;", 1);
        cannot("ride 0 0;ride 0 1;ride 0 0;", 3);
        cannot("mark 0 0;", 0);
        cannot("mark 1 0;", 0);
        cannot("ride 0 0;mark 0 2;", 1);
        cannot("ride 0 0;mark 0 1;", 1);
        cannot("ride 0 0;mark 0 0;mark 0 0;", 2);
        cannot("mark 3 0;", 0);
        // The mark of 0 goes behind the one of 1.
        cannot("ride 0 0;ride 0 2;mark 0 1;ride 1 2;mark 1 1;", 2);
        cannot("ride 0 0;ride 0 2;ride 1 2;mark 1 1;mark 0 1;", 5);
    }

    /** The other MARK must be there at no later an HOUR, though it was told sooner. */
    private static void lawsByTheHour() {
        String rail = "permit 2;needs 0 0;needs 0 1;law 0 1;law 0 2;law 2 1;clerk 0 2;clerk 1 2;";
        check.same("one hour too late", withMonth(rail, "wait 1 2;mark 1 0;wait 0 1;mark 0 0;").till(0, 0), 3);
        check.same("in the same hour", withMonth(rail, "wait 1 2;mark 1 0;wait 0 2;mark 0 0;").till(0, 0), 4);
        check.same("not there", withMonth(rail, "wait 0 5;mark 0 0;").till(0, 0), 1);
        ElsewhereStamps x = withMonth(rail, "wait 1 2;mark 1 0;wait 0 2;mark 0 0;");
        check.same("its hour", x.state(0, 0, 4, 100), 2);
        check.same("takes an hour", x.state(0, 0, 4, 20), 3);
    }

    private static void lastHours() {
        String rail = "train 0 1 11 24;train 0 1 11 23;permit 0;needs 0 1;clerk 1 0;";
        String wait = "wait 0 24;".repeat(12);
        check.same("299", withMonth(rail, wait + "wait 0 11;").till(0, 0), 13);
        check.same("300", withMonth(rail, wait + "wait 0 12;").till(0, 0), 12);
        check.same("299 and 1", withMonth(rail, wait + "wait 0 11;wait 0 1;").till(0, 0), 13);
        check.same("mark at 298", withMonth(rail, wait + "wait 0 10;mark 0 0;").till(0, 0), 14);
        ElsewhereStamps x = withMonth(rail, wait + "wait 0 11;mark 0 0;");
        check.same("mark at 299", x.till(0, 0), 13);
        check.same("not open at 299", x.after(0, 0, 10), 0);
        check.same("open at 298", withMonth(rail, wait + "wait 0 10;").after(0, 0, 10), 1);
        // From 275 both leave in this hour: to 299, to 298; from 276 they would leave at 287.
        String less = "wait 0 24;".repeat(11) + "wait 0 11;";
        check.same("ride to 299", withMonth(rail, less + "ride 0 0;").state(0, 0, 13, 20), 299);
        check.same("ride to 311", withMonth(rail, less + "wait 0 1;ride 0 0;").till(0, 0), 13);
    }

    private static void state() {
        ElsewhereStamps x = withMonth(Tales.RAIL, Tales.MONTH);
        int[][] due = {{0, 3}, {1, 3}, {2, 9}, {3, -2}, {9, -2}, {10, 2}, {11, 2}, {12, -2}, {20, 9}, {21, 9}, {22, -2},
            {30, 2}, {31, 1}, {32, -2}, {40, 1}, {41, 3}, {42, -2}, {50, -2}, {99, -2}, {100, 5}, {101, NONE},
            {102, NONE}, {103, -2}, {109, -2}, {110, 8}, {111, 8}, {112, NONE}, {113, -2}, {120, -2}, {-1, -2}};
        for (int[] row : due) {
            check.same("state 7 " + row[0], x.state(0, 0, 7, row[0]), row[1]);
        }
        int[][] atFirst = {{0, 0}, {1, 0}, {2, 0}, {10, 0}, {11, 1}, {20, 0}, {30, 0}, {40, 0}, {100, NONE}};
        for (int[] row : atFirst) {
            check.same("state 0 " + row[0], x.state(0, 0, 0, row[0]), row[1]);
        }
        int[][] behindThree = {{0, 1}, {1, 1}, {2, 6}, {10, 1}, {11, 1}, {20, 6}, {21, 2}, {30, 1}, {31, 0}, {40, 1}};
        for (int[] row : behindThree) {
            check.same("state 3 " + row[0], x.state(0, 0, 3, row[0]), row[1]);
        }
        check.same("no state 8", x.state(0, 0, 8, 0), -2);
        check.same("no state -1", x.state(0, 0, -1, 0), -2);
        check.same("rail 1", x.state(1, 0, 0, 0), -2);
        check.same("month 1", x.state(0, 1, 0, 0), -2);
        for (int odd : ODD) {
            check.same("odd", x.state(odd, 0, 0, 0), -2);
            check.same("odd", x.state(0, odd, 0, 0), -2);
            check.same("odd", x.state(0, 0, odd, 0), -2);
            check.same("odd", x.state(0, 0, 0, odd), -2);
        }
        ElsewhereStamps y = withMonth("permit 0;permit 1;needs 1 0;", "");
        check.same("a permit that needs none is done", y.state(0, 0, 0, 1), 1);
        check.same("no clerks", y.state(0, 0, 0, 2), 0);
        check.same("clerk 0", y.state(0, 0, 0, 10), -2);
    }

    private static void duty() {
        ElsewhereStamps x = Tape.withRail(Tales.RAIL);
        check.same("duty 0", x.duty(0, 0), 3);
        check.same("duty 1", x.duty(0, 1), 2);
        check.same("clerk 2", x.duty(0, 2), NONE);
        check.same("clerk -1", x.duty(0, -1), NONE);
        check.same("rail 1", x.duty(1, 0), NONE);
        for (int odd : ODD) {
            check.same("odd", x.duty(odd, 0), NONE);
            check.same("odd", x.duty(0, odd), NONE);
        }
        check.same("no duty", Tape.withRail("clerk 0 0;permit 1;").duty(0, 0), 0);
    }

    private static void round() {
        ElsewhereStamps x = Tape.withRail(Tales.RAIL);
        int[][] due = {{0, NONE, 9}, {0, 0, 1}, {0, 1, 2}, {0, 2, NONE}, {0, -2, NONE}, {1, NONE, 9}, {1, 0, 2},
            {1, 1, NONE}, {2, NONE, NONE}, {-1, 0, NONE}};
        for (int[] row : due) {
            check.same("round " + row[0] + " " + row[1], x.round(0, row[0], row[1]), row[2]);
        }
        check.same("rail 1", x.round(1, 0, NONE), NONE);
        for (int odd : ODD) {
            check.same("odd", x.round(odd, 0, NONE), NONE);
            check.same("odd", x.round(0, odd, NONE), NONE);
            check.same("odd", x.round(0, 0, odd), NONE);
        }
        ElsewhereStamps y = Tape.withRail("clerk 0 0;permit 1;");
        check.same("no duty: hour 0", y.round(0, 0, NONE), 0);
        check.same("no duty: no land", y.round(0, 0, 0), NONE);
        ElsewhereStamps z = Tape.withRail("clerk 0 0;permit 1;needs 0 0;");
        check.same("can't be", z.round(0, 0, NONE), NONE);
        check.same("can't be, land", z.round(0, 0, 0), NONE);
        // Three permits in the land where he is: three hours; the train at 2 is gone then.
        ElsewhereStamps w = Tape.withRail("train 0 1 2 1;permit 0;permit 0;permit 0;permit 1;needs 0 2;needs 1 2;needs 2 2;"
            + "needs 3 2;clerk 2 0;");
        check.same("one hour each", w.round(0, 0, NONE), 16);
        check.same("first land", w.round(0, 0, 0), 0);
        check.same("second land", w.round(0, 0, 1), 1);
        // 1 first or 2 first: both 14 behind all; the first row by numbers.
        ElsewhereStamps v = Tape.withRail("train 0 1 0 1;train 0 2 0 1;train 1 2 0 1;train 2 1 0 1;permit 2;permit 1;"
            + "needs 0 0;needs 1 0;clerk 0 0;");
        check.same("as soon both ways", v.round(0, 0, NONE), 14);
        check.same("the first by numbers", v.round(0, 0, 0), 1);
        check.same("then the other one", v.round(0, 0, 1), 2);
    }

    private static void ring() {
        ElsewhereStamps x = Tape.withRail(Tales.RAIL);
        int[][] due = {{0, NONE}, {1, 0}, {2, -2}, {9, -2}, {10, 0}, {11, 1}, {12, 3}, {13, -2}, {-1, -2}};
        for (int[] row : due) {
            check.same("ring " + row[0], x.ring(0, row[0]), row[1]);
        }
        check.same("rail 1", x.ring(1, 0), -2);
        for (int odd : ODD) {
            check.same("odd", x.ring(odd, 0), -2);
            check.same("odd", x.ring(0, odd), -2);
        }
        ElsewhereStamps y = Tape.withRail(Tales.NO_TRAINS);
        check.same("two ask each other", y.ring(0, 0), 2);
        check.same("the least breaks it", y.ring(0, 1), 1);
        check.same("land 0 asks", y.ring(0, 10), 2);
        Tape.tell(y, Tales.EMPTY, Tape.RAIL, NONE);
        check.same("of the other rail none asks", y.ring(1, 10), 0);
        check.same("of the other rail no ring", y.ring(1, 0), NONE);
        // 0 asks 1, 1 asks 2, 2 asks 0, 2 asks 3, 3 asks 2: without 2 there is none.
        ElsewhereStamps z = Tape.withRail("lands 4;permit 0;permit 1;permit 2;permit 3;needs 0 1;needs 1 2;needs 2 0;"
            + "needs 2 3;needs 3 2;");
        check.same("the fewest", z.ring(0, 0), 2);
        check.same("without land 2", z.ring(0, 1), 4);
        ElsewhereStamps w = Tape.withRail("lands 3;permit 0;permit 1;permit 2;needs 0 1;needs 1 2;needs 2 0;");
        check.same("three round", w.ring(0, 0), 3);
        check.same("without land 0", w.ring(0, 1), 1);
    }

    private static void could() {
        ElsewhereStamps x = withLog(Tales.RAIL, Tales.LOG);
        int[][] due = {{0, 1}, {1, 1}, {2, 1}, {3, 0}, {4, 0}, {5, 2}, {6, 2}, {7, 2}, {8, 6}, {99, 7}, {NONE, 1},
            {-2, 94}, {100, NONE}, {-3, NONE}};
        for (int[] row : due) {
            check.same("could " + row[0], x.could(0, 0, row[0]), row[1]);
        }
        check.same("rail 1", x.could(1, 0, 0), NONE);
        check.same("log 1", x.could(0, 1, 0), NONE);
        for (int odd : ODD) {
            check.same("odd", x.could(odd, 0, 0), NONE);
            check.same("odd", x.could(0, odd, 0), NONE);
        }
        check.same("hour least", x.could(0, 0, Integer.MIN_VALUE), NONE);
        cannotBe(withLog(Tales.RAIL, "seen 3 0;"));
        cannotBe(withLog(Tales.RAIL, "seen 0 1;seen 1 1;"));
        cannotBe(withLog(Tales.RAIL, "seen 0 3;seen 1 6;"));
        // He sat in the only train at 4, and can't have stood in 1 at 6 then.
        cannotBe(withLog(Tales.RAIL, "seen 1 6;seen 0 4;seen 0 1;"));
        ElsewhereStamps y = withLog(Tales.NO_TRAINS, "");
        check.same("anywhere", y.could(0, 0, 50), 3);
        check.same("free all the time", y.could(0, 0, -2), 100);
        check.same("began anywhere", y.could(0, 0, NONE), 3);
        ElsewhereStamps z = withLog(Tales.NO_TRAINS, "seen 1 99;seen 1 99;");
        check.same("never elsewhere", z.could(0, 0, NONE), 2);
        check.same("never free", z.could(0, 0, -2), 0);
        // He stands there in the hour in which he comes and in the hour in which he leaves.
        ElsewhereStamps w = withLog("lands 2;train 0 1 4 3;", "seen 0 4;seen 1 7;");
        check.same("leaves at 4", w.could(0, 0, 4), 1);
        check.same("rides at 5", w.could(0, 0, 5), 0);
        check.same("comes at 7", w.could(0, 0, 7), 2);
        check.same("free while he rides", w.could(0, 0, -2), 2);
        couldAtTheEnds();
    }

    private static void couldAtTheEnds() {
        ElsewhereStamps x = withLog(Tales.NO_TRAINS, "seen 1 0;");
        check.same("seen at 0, at 50", x.could(0, 0, 50), 2);
        check.same("seen at 0, began", x.could(0, 0, NONE), 2);
        ElsewhereStamps y = withLog("lands 2;train 0 1 0 5;", "seen 0 0;seen 1 5;");
        check.same("rides from hour 0 on", y.could(0, 0, 1), 0);
        check.same("began", y.could(0, 0, NONE), 1);
        check.same("free", y.could(0, 0, -2), 4);
        // The train at 75 comes at 99; the one at 87 would come too late.
        ElsewhereStamps z = withLog("lands 2;train 1 0 3 24;", "seen 0 99;");
        check.same("seen at 99, at 75", z.could(0, 0, 75), 3);
        check.same("seen at 99, at 76", z.could(0, 0, 76), 1);
        check.same("seen at 99, certain", z.certain(0, 0, false), 24);
        check.same("seen at 99, certain from", z.certain(0, 0, true), 76);
    }

    private static void cannotBe(ElsewhereStamps x) {
        for (int hour = -2; hour < 100; hour++) {
            check.same("can't be " + hour, x.could(0, 0, hour), NONE);
        }
        check.same("not certain", x.certain(0, 0, false), -2);
        check.same("not certain, first", x.certain(0, 0, true), -2);
    }

    /** The row of seed 1 is the well known one of this rule (its low 15 bits): so the rule is the document's. */
    private static void drawn() {
        ElsewhereStamps x = Tape.withRail(Tales.RAIL);
        int[] wellKnown = {16838, 5758, 10113, 17515, 31051, 5627, 23010, 7419, 16212, 4086, 2749, 12767};
        int seed = 1;
        for (int i = 0; i < wellKnown.length; i++) {
            seed = seed * 1103515245 + 12345;
            check.same("row " + i, seed >>> 16 & 32767, wellKnown[i]);
        }
        check.same("none drawn", x.drawn(0, 1, 0, 2), 0);
        for (int n : new int[] {-1, 61, Integer.MIN_VALUE, Integer.MAX_VALUE}) {
            check.same("n " + n, x.drawn(0, 1, n, 0), -2);
        }
        check.same("60 may be", x.drawn(0, 1, 60, 0) >= 0, true);
        check.same("rail 1", x.drawn(1, 1, 1, 0), -2);
        check.same("rail -1", x.drawn(-1, 1, 1, 0), -2);
        check.same("another what", x.drawn(0, 1, 1, 3), -2);
        check.same("another what", x.drawn(0, 1, 1, -1), -2);
        check.same("another clerk", x.drawn(0, 1, 1, 12), -2);
        check.same("another land", x.drawn(0, 1, 1, 103), -2);
        // Nothing but clerks: only waits are drawn behind the clerk, and nothing else.
        ElsewhereStamps y = Tape.withRail("clerk 0 0;");
        int hour = 0;
        int s = 77;
        for (int turn = 0; turn < 60; turn++) {
            s = s * 1103515245 + 12345;
            int kind = (s >>> 16) % 8;
            s = s * 1103515245 + 12345;
            if (kind == 7) {
                s = s * 1103515245 + 12345;
                hour += 1 + (s >>> 16) % 12;
            }
            check.same("waits " + turn, y.drawn(0, 77, turn + 1, 20), hour);
        }
        check.same("some were waits", hour > 0, true);
        oneTrain();
        check.same("no clerks", Tape.withRail("permit 0;train 0 1 0 1;").drawn(0, 5, 60, 2), 0);
    }

    /** One train, and no way back: it is drawn even if it can't be taken; nothing is drawn for a mark. */
    private static void oneTrain() {
        ElsewhereStamps x = Tape.withRail("train 0 1 3 2;clerk 0 0;");
        int s = 4;
        int at = 0;
        int hour = 0;
        for (int turn = 1; turn <= 60; turn++) {
            s = s * 1103515245 + 12345;
            int kind = (s >>> 16) % 8;
            s = s * 1103515245 + 12345;
            if (kind < 3) {
                s = s * 1103515245 + 12345;
                int leave = hour + (3 - hour % 12 + 12) % 12;
                hour = at == 0 ? leave + 2 : hour;
                at = 1;
            } else if (kind == 7) {
                s = s * 1103515245 + 12345;
                hour += 1 + (s >>> 16) % 12;
            }
            check.same("one train, where, turn " + turn, x.drawn(0, 4, turn, 10), at);
            check.same("one train, hour, turn " + turn, x.drawn(0, 4, turn, 20), hour);
        }
        check.same("it was taken", at, 1);
    }

    private static void orders() {
        ElsewhereStamps x = Tape.withRail(Tales.RAIL);
        int[][] due = {{0, NONE, 1}, {0, 0, 0}, {0, 1, NONE}, {1, NONE, 1}, {1, 0, 1}, {1, 1, 0}, {1, 2, NONE},
            {1, -2, NONE}, {2, NONE, NONE}, {-1, NONE, NONE}};
        for (int[] row : due) {
            check.same("orders " + row[0] + " " + row[1], x.orders(0, row[0], row[1]), row[2]);
        }
        check.same("rail 1", x.orders(1, 0, NONE), NONE);
        for (int odd : ODD) {
            check.same("odd", x.orders(odd, 0, NONE), NONE);
            check.same("odd", x.orders(0, odd, NONE), NONE);
            check.same("odd", x.orders(0, 0, odd), NONE);
        }
        String five = "lands 6;permit 0;needs 0 1;needs 0 2;needs 0 3;needs 0 4;needs 0 5;";
        check.same("120 orders", Tape.withRail(five).orders(0, 0, NONE), 120);
        ElsewhereStamps y = Tape.withRail(five + "law 1 5;law 0 2;law 3 0;");
        check.same("60 orders", y.orders(0, 0, NONE), 60);
        int[] first = {2, 3, 4, 5, 1};
        for (int k = 0; k < 5; k++) {
            check.same("order " + k, y.orders(0, 0, k), first[k]);
        }
        ElsewhereStamps z = Tape.withRail("permit 0;needs 0 1;needs 0 2;law 1 2;law 2 1;permit 1;");
        check.same("no order", z.orders(0, 0, NONE), 0);
        check.same("no order, first", z.orders(0, 0, 0), NONE);
        check.same("nothing to order", z.orders(0, 1, NONE), 1);
        check.same("nothing to order, first", z.orders(0, 1, 0), NONE);
    }

    private static void lacks() {
        ElsewhereStamps x = Tape.withRail(Tales.RAIL);
        check.same("lacks 0", x.lacks(0, 0, false), 0);
        check.same("ready 0", x.lacks(0, 0, true), 5);
        check.same("lacks 1", x.lacks(0, 1, false), 0);
        check.same("ready 1", x.lacks(0, 1, true), 8);
        for (boolean ready : new boolean[] {false, true}) {
            check.same("permit 2", x.lacks(0, 2, ready), NONE);
            check.same("permit -1", x.lacks(0, -1, ready), NONE);
            check.same("rail 1", x.lacks(1, 0, ready), NONE);
            for (int odd : ODD) {
                check.same("odd", x.lacks(odd, 0, ready), NONE);
                check.same("odd", x.lacks(0, odd, ready), NONE);
            }
        }
        ElsewhereStamps y = Tape.withRail(Tales.NO_TRAINS);
        check.same("no clerk of it", y.lacks(0, 0, false), 2);
        check.same("never ready", y.lacks(0, 0, true), NONE);
        check.same("he can't come", y.lacks(0, 1, false), 1);
        ElsewhereStamps z = Tape.withRail("permit 0;needs 0 1;needs 0 2;law 1 2;law 2 1;clerk 1 0;clerk 2 0;permit 1;");
        check.same("lacks none", z.lacks(0, 0, false), 0);
        check.same("the laws allow no order", z.lacks(0, 0, true), NONE);
        check.same("needs none", z.lacks(0, 1, true), 0);
        check.same("needs none, lacks none", z.lacks(0, 1, false), 0);
        // The nearer of two clerks of land 1 comes at 4, the one of land 2 is there.
        ElsewhereStamps w = Tape.withRail("train 1 0 2 9;train 2 0 3 1;permit 0;needs 0 1;needs 0 2;law 2 1;clerk 1 1;"
            + "clerk 1 2;clerk 2 0;");
        check.same("the soonest clerk", w.lacks(0, 0, true), 4);
    }

    private static void ledge() {
        ElsewhereStamps x = Tape.withRail(Tales.RAIL);
        check.same("ledge 0", x.ledge(0, 0, false), 1);
        check.same("its hour", x.ledge(0, 0, true), 5);
        check.same("ledge 1", x.ledge(0, 1, false), 2);
        check.same("its hour", x.ledge(0, 1, true), 8);
        for (boolean hour : new boolean[] {false, true}) {
            check.same("permit 2", x.ledge(0, 2, hour), NONE);
            check.same("permit -1", x.ledge(0, -1, hour), NONE);
            check.same("rail 1", x.ledge(1, 0, hour), NONE);
            for (int odd : ODD) {
                check.same("odd", x.ledge(odd, 0, hour), NONE);
                check.same("odd", x.ledge(0, odd, hour), NONE);
            }
            check.same("in none", Tape.withRail(Tales.NO_TRAINS).ledge(0, 0, hour), NONE);
        }
        ElsewhereStamps y = Tape.withRail("permit 0;needs 0 1;clerk 1 2;permit 2;");
        check.same("where the clerk is", y.ledge(0, 0, false), 2);
        check.same("at once", y.ledge(0, 0, true), 0);
        check.same("needs none: the least", y.ledge(0, 1, false), 0);
        check.same("needs none: at once", y.ledge(0, 1, true), 0);
    }

    private static void busy() {
        ElsewhereStamps x = Tape.withRail(Tales.RAIL);
        check.same("busy", x.busy(0, false), 0);
        check.same("how many", x.busy(0, true), 2);
        check.same("rail 1", x.busy(1, false), -2);
        check.same("rail 1, many", x.busy(1, true), -2);
        for (int odd : ODD) {
            check.same("odd", x.busy(odd, false), -2);
        }
        ElsewhereStamps y = Tape.withRail("permit 0;");
        check.same("none is needed", y.busy(0, false), NONE);
        check.same("none", y.busy(0, true), 0);
        ElsewhereStamps z = Tape.withRail("permit 0;needs 0 1;needs 0 2;");
        check.same("of several the least", z.busy(0, false), 1);
        check.same("one", z.busy(0, true), 1);
    }

    private static void certain() {
        ElsewhereStamps x = withLog(Tales.RAIL, Tales.LOG);
        check.same("certain", x.certain(0, 0, false), 3);
        check.same("the first", x.certain(0, 0, true), 0);
        for (boolean first : new boolean[] {false, true}) {
            check.same("rail 1", x.certain(1, 0, first), -2);
            check.same("log 1", x.certain(0, 1, first), -2);
            for (int odd : ODD) {
                check.same("odd", x.certain(odd, 0, first), -2);
                check.same("odd", x.certain(0, odd, first), -2);
            }
        }
        ElsewhereStamps y = withLog(Tales.NO_TRAINS, "");
        check.same("never certain", y.certain(0, 0, false), 0);
        check.same("no first", y.certain(0, 0, true), NONE);
        ElsewhereStamps z = withLog(Tales.NO_TRAINS, "seen 0 40;");
        check.same("always certain", z.certain(0, 0, false), 100);
        check.same("from the first hour on", z.certain(0, 0, true), 0);
        // In 0 until 4, in 1 from 5 on: two runs one behind the other are not one.
        ElsewhereStamps w = withLog("lands 2;train 0 1 4 1;", "seen 0 4;seen 1 5;");
        check.same("the same land", w.certain(0, 0, false), 95);
        check.same("from 5 on", w.certain(0, 0, true), 5);
    }

    private static void stuck() {
        check.same("none stuck", Tape.withRail(Tales.RAIL).stuck(0), 0);
        check.same("laws of marks not both needed", Tape.withRail(Tales.NO_TRAINS).stuck(0), 0);
        ElsewhereStamps x = Tape.withRail("lands 4;permit 0;permit 0;permit 0;needs 0 1;needs 0 2;needs 0 3;needs 1 1;needs 1 2;"
            + "law 1 2;law 2 3;law 3 1;");
        check.same("round in three", x.stuck(0), 1);
        // Two go round, two could be made: there is no order all the same.
        ElsewhereStamps y = Tape.withRail("lands 5;permit 0;needs 0 1;needs 0 2;needs 0 3;needs 0 4;law 3 2;law 2 3;law 1 4;"
            + "clerk 1 0;clerk 2 0;clerk 3 0;clerk 4 0;");
        check.same("two go round", y.stuck(0), 1);
        check.same("no order of four", y.orders(0, 0, NONE), 0);
        check.same("no first of four", y.orders(0, 0, 0), NONE);
        check.same("never ready", y.lacks(0, 0, true), NONE);
        check.same("nowhere ready", y.ledge(0, 0, false), NONE);
        for (int odd : ODD) {
            check.same("odd", x.stuck(odd), NONE);
        }
        check.same("rail 1", x.stuck(1), NONE);
        check.same("rail -1", x.stuck(-1), NONE);
    }

    private static void after() {
        ElsewhereStamps x = withMonth(Tales.RAIL, Tales.MONTH);
        int[][] due = {{0, 1}, {1, -2}, {9, -2}, {10, 0}, {11, 0}, {12, -2}, {20, 5}, {21, 2}, {22, -2}, {30, 2}, {31, 6},
            {32, -2}, {40, -2}, {100, -2}, {-1, -2}};
        for (int[] row : due) {
            check.same("after " + row[0], x.after(0, 0, row[0]), row[1]);
        }
        check.same("rail 1", x.after(1, 0, 0), -2);
        check.same("month 1", x.after(0, 1, 0), -2);
        for (int odd : ODD) {
            check.same("odd", x.after(odd, 0, 0), -2);
            check.same("odd", x.after(0, odd, 0), -2);
            check.same("odd", x.after(0, 0, odd), -2);
        }
        ElsewhereStamps y = withMonth(Tales.RAIL, "ride 0 0;wait 1 3;");
        check.same("none done", y.after(0, 0, 0), NONE);
        check.same("open at once", y.after(0, 0, 10), 1);
        check.same("nothing open", y.after(0, 0, 11), 0);
        check.same("waited for the train", y.after(0, 0, 30), 2);
        check.same("waited", y.after(0, 0, 31), 3);
        // A PERMIT that needs none is done before: it is not the first.
        ElsewhereStamps z = withMonth("permit 0;permit 0;needs 1 1;clerk 1 0;", "wait 0 1;mark 0 1;");
        check.same("done by the second deed", z.after(0, 0, 0), 1);
    }
}
