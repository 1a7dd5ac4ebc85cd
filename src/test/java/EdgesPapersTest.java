/** The boundary cases of promises 11, 12, 17, 27 to 30, 32, with terms 3 and 6, sentence by sentence. */
public final class EdgesPapersTest {
    private static final int NONE = ElsewhereStamps.NONE;
    private static final int LEAST = Integer.MIN_VALUE;
    private static final int MOST = Integer.MAX_VALUE;
    private static final int[] NO_RAILS = {LEAST, -2, -1, 1, 2, 3, MOST};
    private static final int[] NO_CLERKS = {LEAST, -2, -1, 4, 5, MOST};
    private static final int[] NO_PERMITS = {LEAST, -2, -1, 8, 9, MOST};
    private static final boolean[] BOTH = {false, true};
    private static final Check check = new Check("EdgesPapersTest");
    /** A PERMIT can't NEED the MARK of its own LAND, so five is the most. */
    private static final String FIVE = "lands 6;permit 0;needs 0 1;needs 0 2;needs 0 3;needs 0 4;needs 0 5;";

    private EdgesPapersTest() {
    }

    public static void main(String[] args) {
        duty();
        dutyRefused();
        round();
        roundOfFive();
        roundRefused();
        asks();
        ring();
        breaks();
        ringRefused();
        orders();
        ordersByLaws();
        ordersRefused();
        lacks();
        ready();
        lacksRefused();
        ledge();
        ledgeRefused();
        busy();
        stuck();
        usedObject();
        check.finish();
    }

    private static void duty() {
        check.sentence("DUTY of a CLERK: the PERMITS that NEED the MARK of his LAND (bits).");
        StringBuilder rail = new StringBuilder("lands 2;" + "permit 0;".repeat(8) + "clerk 1 0;clerk 0 0;clerk 1 1;clerk 0 1;");
        check.same("none needed", Tape.withRail(rail.toString()).duty(0, 0), 0);
        int bits = 0;
        for (int p = 7; p >= 0; p--) {
            rail.append(Tales.line("needs", p, 1));
            bits |= 1 << p;
            ElsewhereStamps x = Tape.withRail(rail.toString());
            int[] due = {bits, 0, bits, 0};
            for (int c = 0; c < 4; c++) {
                check.same("duty of " + c, x.duty(0, c), due[c]);
            }
        }
        check.same("no permits", Tape.withRail("clerk 0 0;").duty(0, 0), 0);
        ElsewhereStamps full = Tape.withRail(Tales.full());
        int[] due = {128, 65, 192, 192};
        for (int c = 0; c < 4; c++) {
            check.same("full, duty of " + c, full.duty(0, c), due[c]);
        }
    }

    private static void dutyRefused() {
        check.sentence("NONE: there is none such (of either). (duty)");
        ElsewhereStamps x = Tape.withRail(Tales.full());
        for (int rail : NO_RAILS) {
            check.same("rail " + rail, x.duty(rail, 0), NONE);
        }
        for (int clerk : NO_CLERKS) {
            check.same("clerk " + clerk, x.duty(0, clerk), NONE);
        }
        check.same("no clerks", Tape.withRail("permit 0;").duty(0, 0), NONE);
        check.same("one clerk", Tape.withRail("clerk 0 0;").duty(0, 1), NONE);
    }

    private static void round() {
        check.sentence("he goes to LANDS with his DUTY in any order, and marks there, 1 HOUR each (LAWS aside): the least HOUR behind all");
        StringBuilder rail = new StringBuilder("lands 2;law 0 1;law 1 0;" + "permit 0;".repeat(8) + "clerk 1 0;");
        for (int p = 0; p < 8; p++) {
            check.same("hours of " + p, Tape.withRail(rail.toString()).round(0, 0, NONE), p);
            check.same("land of " + p, Tape.withRail(rail.toString()).round(0, 0, 0), p == 0 ? NONE : 0);
            rail.append(Tales.line("needs", p, 1));
        }
        ElsewhereStamps all = Tape.withRail(rail.toString());
        check.same("eight in one land", all.round(0, 0, NONE), 8);
        check.same("one land", all.round(0, 0, 0), 0);
        check.same("no second", all.round(0, 0, 1), NONE);
        // LAWS aside: the MARK could never be made by them.
        String laws = "permit 0;needs 0 1;needs 0 2;law 1 2;law 2 1;clerk 1 0;";
        check.same("laws aside", Tape.withRail(laws).round(0, 0, NONE), 1);
        // The HOUR of the last MARK is gone too, and one catches a TRAIN that leaves in the HOUR behind the MARK.
        String catching = "train 0 1 1 1;permit 0;permit 1;needs 0 2;needs 1 2;clerk 2 0;";
        check.same("caught", Tape.withRail(catching).round(0, 0, NONE), 3);
        check.same("missed by an hour", Tape.withRail(catching + "permit 0;needs 2 2;").round(0, 0, NONE), 15);
        check.same("far", Tape.withRail("train 0 1 11 24;permit 1;needs 0 2;clerk 2 0;").round(0, 0, NONE), 36);
    }

    private static void roundOfFive() {
        check.sentence("the row of these LANDS, the first by numbers.");
        String needs = "permit 0;permit 1;permit 2;permit 3;permit 4;needs 0 5;needs 1 5;needs 2 5;needs 3 5;needs 4 5;";
        // Behind each MARK the next TRAIN leaves: 0, 1, 2, 3, 4 at 0, 2, 4, 6, 8.
        ElsewhereStamps up = Tape.withRail("lands 6;train 0 1 1 1;train 1 2 3 1;train 2 3 5 1;train 3 4 7 1;clerk 5 0;" + needs);
        check.same("up", up.round(0, 0, NONE), 9);
        ElsewhereStamps down = Tape.withRail("lands 6;train 4 3 1 1;train 3 2 3 1;train 2 1 5 1;train 1 0 7 1;clerk 5 4;" + needs);
        check.same("down", down.round(0, 0, NONE), 9);
        for (int k = 0; k < 5; k++) {
            check.same("up, " + k, up.round(0, 0, k), k);
            check.same("down, " + k, down.round(0, 0, k), 4 - k);
        }
        check.same("no sixth", up.round(0, 0, 5), NONE);
        check.same("no sixth", down.round(0, 0, 5), NONE);
        // From 2 to 0 and 1 it is as soon in both orders.
        String both = "train 2 0 0 1;train 2 1 0 1;train 0 1 2 1;train 1 0 2 1;permit 1;permit 0;needs 0 2;needs 1 2;clerk 2 2;";
        check.same("as soon", Tape.withRail(both).round(0, 0, NONE), 4);
        check.same("the first by numbers", Tape.withRail(both).round(0, 0, 0), 0);
        check.same("then the other", Tape.withRail(both).round(0, 0, 1), 1);
    }

    private static void roundRefused() {
        check.sentence("NONE: it can't be, not so many, or there is none such (of either).");
        ElsewhereStamps x = Tape.withRail("permit 0;permit 1;needs 0 2;needs 1 2;clerk 2 0;clerk 1 0;");
        for (int k = -1; k < 4; k++) {
            check.same("it can't be, k " + k, x.round(0, 0, k), NONE);
        }
        check.same("no duty", x.round(0, 1, NONE), 0);
        ElsewhereStamps y = Tape.withRail(Tales.full());
        for (int k : new int[] {LEAST, -3, -2, 1, 2, 6, MOST}) {
            check.same("k " + k, y.round(0, 0, k), NONE);
            check.same("no duty, k " + k, x.round(0, 1, k), NONE);
        }
        check.same("the only land", y.round(0, 0, 0), 5);
        check.same("no duty, no land", x.round(0, 1, 0), NONE);
        for (int k = -1; k < 2; k++) {
            for (int rail : NO_RAILS) {
                check.same("rail " + rail, y.round(rail, 0, k), NONE);
            }
            for (int clerk : NO_CLERKS) {
                check.same("clerk " + clerk, y.round(0, clerk, k), NONE);
            }
        }
        // One can come there, but not on to the next one.
        String oneWay = "train 0 1 0 1;train 0 2 0 1;permit 1;permit 2;needs 0 0;needs 1 0;clerk 0 0;";
        check.same("no way from the one to the other", Tape.withRail(oneWay).round(0, 0, NONE), NONE);
    }

    private static void asks() {
        check.sentence("ASKED: a LAND asks another one, if a PERMIT in it NEEDS its MARK.");
        ElsewhereStamps x = Tape.withRail(Tales.full());
        int[] due = {62, 0, 0, 0, 0, 31};
        for (int l = 0; l < 6; l++) {
            check.same("asks " + l, x.ring(0, 10 + l), due[l]);
            check.same("without permits " + l, Tape.withRail("lands 6;").ring(0, 10 + l), 0);
        }
        check.same("two lands", Tape.withRail("lands 2;").ring(0, 11), 0);
        check.same("no third", Tape.withRail("lands 2;").ring(0, 12), -2);
    }

    private static String ringOf(int lands) {
        StringBuilder rail = new StringBuilder("lands 6;");
        for (int l = 0; l < lands; l++) {
            rail.append(Tales.line("permit", 5 - l)).append(Tales.line("needs", l, 5 - (l + 1) % lands));
        }
        return rail.toString();
    }

    private static void ring() {
        check.sentence("RING: the fewest LANDS that ask one another round (two at least).");
        for (int lands = 2; lands <= 6; lands++) {
            ElsewhereStamps x = Tape.withRail(ringOf(lands));
            check.same("round in " + lands, x.ring(0, 0), lands);
            check.same("without the least of them", x.ring(0, 1), 1 << 6 - lands);
            // One more asking makes it shorter, if there is one shorter.
            ElsewhereStamps y = Tape.withRail(ringOf(lands) + "permit 4;needs " + lands + " 5;");
            check.same("and two of them", y.ring(0, 0), 2);
        }
        ElsewhereStamps row = Tape.withRail("lands 6;permit 0;permit 1;permit 2;permit 3;permit 4;needs 0 1;needs 1 2;needs 2 3;"
            + "needs 3 4;needs 4 5;needs 0 5;");
        check.same("a row is no ring", row.ring(0, 0), NONE);
        check.same("nothing to break", row.ring(0, 1), 0);
        check.same("no permits", Tape.withRail("").ring(0, 0), NONE);
        check.same("no permits, nothing to break", Tape.withRail("").ring(0, 1), 0);
    }

    private static void breaks() {
        check.sentence("BREAK: the fewest LANDS (bits; of several the least) without which there is no RING among the others.");
        for (int lands = 2; lands <= 6; lands++) {
            StringBuilder rail = new StringBuilder("lands " + lands + ";");
            for (int p = 0; p < lands; p++) {
                rail.append(Tales.line("permit", p));
                for (int l = 0; l < lands; l++) {
                    rail.append(l == p ? "" : Tales.line("needs", p, l));
                }
            }
            ElsewhereStamps x = Tape.withRail(rail.toString());
            check.same("each asks each of " + lands, x.ring(0, 0), 2);
            check.same("all but the last", x.ring(0, 1), (1 << lands - 1) - 1);
        }
        // Three couples ask each other: one of each, the least.
        String couples = "lands 6;permit 0;permit 1;permit 2;permit 3;permit 4;permit 5;needs 0 1;needs 1 0;needs 2 3;needs 3 2;needs 4 5;needs 5 4;";
        check.same("one of each couple", Tape.withRail(couples).ring(0, 1), 21);
        // One LAND of more is fewer than two of less.
        String star = "lands 6;permit 0;permit 1;permit 5;needs 0 5;needs 1 5;needs 2 0;needs 2 1;";
        check.same("the last alone", Tape.withRail(star).ring(0, 1), 32);
    }

    private static void ringRefused() {
        check.sentence("-2: there is none such (of either), or for another what. (ring)");
        ElsewhereStamps x = Tape.withRail(Tales.full());
        for (int what : new int[] {LEAST, -10, -2, -1, 2, 3, 9, 16, 17, 20, 100, MOST}) {
            check.same("what " + what, x.ring(0, what), -2);
        }
        for (int rail : NO_RAILS) {
            for (int what : new int[] {0, 1, 10}) {
                check.same("rail " + rail, x.ring(rail, what), -2);
            }
        }
    }

    private static void orders() {
        check.sentence("ORDERS of a PERMIT: in how many orders its MARKS can be made one behind the other by the LAWS");
        int[] due = {1, 1, 2, 6, 24, 120};
        StringBuilder rail = new StringBuilder("lands 6;permit 0;");
        for (int needs = 0; needs <= 5; needs++) {
            ElsewhereStamps x = Tape.withRail(rail.toString());
            check.same("orders of " + needs, x.orders(0, 0, NONE), due[needs]);
            for (int k = 0; k < 7; k++) {
                check.same("of " + needs + ", " + k, x.orders(0, 0, k), k < needs ? k + 1 : NONE);
            }
            rail.append(needs < 5 ? Tales.line("needs", 0, needs + 1) : "");
        }
        ElsewhereStamps full = Tape.withRail(Tales.full());
        check.same("full, the last permit", full.orders(0, 7, NONE), 1);
        for (int k = 0; k < 5; k++) {
            check.same("full, the last permit, " + k, full.orders(0, 7, k), k);
        }
    }

    private static void ordersByLaws() {
        check.sentence("(a LAW of MARKS that it does not both NEED asks nothing); the k-th MARK of the first order by numbers.");
        ElsewhereStamps free = Tape.withRail("lands 4;permit 0;needs 0 1;needs 0 2;law 1 3;law 3 2;law 2 0;law 0 1;");
        check.same("asks nothing", free.orders(0, 0, NONE), 2);
        check.same("first", free.orders(0, 0, 0), 1);
        // Six LAWS, the last of which turns the order.
        ElsewhereStamps all = Tape.withRail(FIVE + "law 1 2;law 1 2;law 2 3;law 3 4;law 1 5;law 4 5;");
        check.same("one order", all.orders(0, 0, NONE), 1);
        for (int k = 0; k < 5; k++) {
            check.same("from the last to the first, " + k, all.orders(0, 0, k), 5 - k);
        }
        check.same("one law halves them", Tape.withRail(FIVE + "law 1 5;").orders(0, 0, NONE), 60);
        check.same("told twice it is one", Tape.withRail(FIVE + "law 1 5;law 1 5;").orders(0, 0, NONE), 60);
        check.same("of two apart a quarter", Tape.withRail(FIVE + "law 1 5;law 2 4;").orders(0, 0, NONE), 30);
        // By numbers: 2 is the least that can be first, 1 comes as soon as 5 is there.
        ElsewhereStamps some = Tape.withRail(FIVE + "law 1 3;law 4 5;");
        int[] first = {2, 3, 1, 5, 4};
        for (int k = 0; k < 5; k++) {
            check.same("the least that can be, " + k, some.orders(0, 0, k), first[k]);
        }
    }

    private static void ordersRefused() {
        check.sentence("NONE: not so many, there is no order (but for how many), or there is none such (of either).");
        ElsewhereStamps x = Tape.withRail("permit 0;permit 1;needs 0 1;needs 0 2;law 1 2;law 2 1;");
        check.same("no order: how many", x.orders(0, 0, NONE), 0);
        check.same("no order: first", x.orders(0, 0, 0), NONE);
        check.same("no order: second", x.orders(0, 0, 1), NONE);
        check.same("none needed: how many", x.orders(0, 1, NONE), 1);
        check.same("none needed: first", x.orders(0, 1, 0), NONE);
        check.same("no third permit", x.orders(0, 2, NONE), NONE);
        // A part of it goes round: what could be made first is no order either.
        ElsewhereStamps part = Tape.withRail("lands 4;permit 0;needs 0 1;needs 0 2;needs 0 3;law 2 3;law 3 2;");
        check.same("a part: how many", part.orders(0, 0, NONE), 0);
        check.same("a part: first", part.orders(0, 0, 0), NONE);
        ElsewhereStamps y = Tape.withRail(Tales.full());
        for (int k : new int[] {LEAST, -3, -2, 5, 6, 31, 32, MOST}) {
            check.same("k " + k, y.orders(0, 7, k), NONE);
        }
        for (int k = -1; k < 1; k++) {
            for (int rail : NO_RAILS) {
                check.same("rail " + rail, y.orders(rail, 7, k), NONE);
            }
            for (int permit : NO_PERMITS) {
                check.same("permit " + permit, y.orders(0, permit, k), NONE);
            }
        }
    }

    private static void lacks() {
        check.sentence("LACKS of a PERMIT: LANDS (bits) whose MARK it NEEDS, of which there is no CLERK who can come to its LAND");
        ElsewhereStamps full = Tape.withRail(Tales.full());
        int[] due = {0, 0, 0, 0, 0, 0, 12, 12};
        for (int p = 0; p < 8; p++) {
            check.same("full, lacks " + p, full.lacks(0, p, false), due[p]);
            check.same("full, ready " + p, full.lacks(0, p, true), p == 0 ? 6 : p < 6 ? 0 : NONE);
        }
        check.same("no clerks: all five", Tape.withRail(FIVE).lacks(0, 0, false), 62);
        check.same("four of five", Tape.withRail(FIVE + "clerk 2 0;clerk 3 0;clerk 4 0;clerk 5 0;").lacks(0, 0, false), 2);
        check.same("clerks that can't come", Tape.withRail(FIVE + "clerk 2 1;clerk 3 1;clerk 4 1;clerk 5 1;").lacks(0, 0, false), 62);
        check.same("the second of two can come", Tape.withRail("permit 0;needs 0 1;clerk 1 1;clerk 1 0;").lacks(0, 0, false), 0);
        check.same("a train from the land, none to it", Tape.withRail("permit 0;needs 0 1;clerk 1 1;train 0 1 0 1;").lacks(0, 0, false), 2);
    }

    private static void ready() {
        check.sentence("(all at once, if need be): the HOUR at which the last MARK is made (without any: 0).");
        check.same("without any", Tape.withRail("permit 0;").lacks(0, 0, true), 0);
        String four = "lands 5;permit 0;needs 0 1;needs 0 2;needs 0 3;needs 0 4;clerk 1 0;clerk 2 0;clerk 3 0;clerk 4 0;";
        check.same("all at once", Tape.withRail(four).lacks(0, 0, true), 0);
        check.same("all at once by the laws", Tape.withRail(four + "law 1 2;law 2 3;law 3 4;").lacks(0, 0, true), 0);
        check.same("round by the laws", Tape.withRail(four + "law 1 2;law 2 3;law 3 1;").lacks(0, 0, true), NONE);
        String late = "lands 3;train 1 0 11 24;permit 0;needs 0 1;needs 0 2;clerk 1 1;clerk 2 0;";
        check.same("the last that comes", Tape.withRail(late).lacks(0, 0, true), 35);
        check.same("he is waited for", Tape.withRail(late + "law 2 1;").lacks(0, 0, true), 35);
        check.same("he waits for none", Tape.withRail(late + "law 1 2;").lacks(0, 0, true), 35);
        check.same("the sooner of two", Tape.withRail(late + "clerk 1 0;").lacks(0, 0, true), 0);
    }

    private static void lacksRefused() {
        check.sentence("NONE: (ready) it lacks one, or the LAWS allow no order; there is none such (of either).");
        ElsewhereStamps x = Tape.withRail("permit 0;needs 0 1;needs 0 2;clerk 1 0;");
        check.same("it lacks one", x.lacks(0, 0, false), 4);
        check.same("it lacks one, ready", x.lacks(0, 0, true), NONE);
        ElsewhereStamps y = Tape.withRail("permit 0;needs 0 1;needs 0 2;clerk 1 0;clerk 2 0;law 1 2;law 2 1;");
        check.same("it lacks none", y.lacks(0, 0, false), 0);
        check.same("no order, ready", y.lacks(0, 0, true), NONE);
        ElsewhereStamps z = Tape.withRail(Tales.full());
        for (boolean ready : BOTH) {
            for (int rail : NO_RAILS) {
                check.same("rail " + rail, z.lacks(rail, 0, ready), NONE);
            }
            for (int permit : NO_PERMITS) {
                check.same("permit " + permit, z.lacks(0, permit, ready), NONE);
            }
            check.same("no permits", Tape.withRail("").lacks(0, 0, ready), NONE);
        }
    }

    private static void ledge() {
        check.sentence("LEDGE of a PERMIT: the LAND whose MARK it does not NEED, in which .. it would be READY soonest, of several the least");
        ElsewhereStamps full = Tape.withRail(Tales.full());
        // Permit 0 needs 5, whose CLERK is in 5: in 0 he is at 6, in 1 at 13; in 5 it can't be.
        check.same("full", full.ledge(0, 0, false), 0);
        check.same("full, hour", full.ledge(0, 0, true), 6);
        check.same("needs none: the least", full.ledge(0, 5, false), 0);
        check.same("needs none: at once", full.ledge(0, 5, true), 0);
        // It needs five MARKS: there is but its own LAND.
        ElsewhereStamps one = Tape.withRail("lands 5;permit 4;needs 0 0;needs 0 1;needs 0 2;needs 0 3;clerk 0 4;clerk 1 4;clerk 2 4;clerk 3 4;");
        check.same("its own land alone", one.ledge(0, 0, false), 4);
        check.same("its own land alone, hour", one.ledge(0, 0, true), 0);
        ElsewhereStamps last = Tape.withRail("lands 6;permit 0;needs 0 1;clerk 1 5;train 5 4 0 1;");
        check.same("the last land", last.ledge(0, 0, false), 5);
        // The CLERK stands in the LAND whose MARK it needs: it can't be there.
        ElsewhereStamps own = Tape.withRail("permit 0;needs 0 1;clerk 1 1;train 1 2 3 4;train 1 0 3 4;");
        check.same("of several the least", own.ledge(0, 0, false), 0);
        check.same("their hour", own.ledge(0, 0, true), 7);
    }

    private static void ledgeRefused() {
        check.sentence("NONE: in none, or there is none such (of either).");
        ElsewhereStamps x = Tape.withRail(Tales.full());
        for (boolean hour : BOTH) {
            check.same("it lacks two everywhere", x.ledge(0, 6, hour), NONE);
            check.same("he can't leave", Tape.withRail("permit 0;needs 0 1;clerk 1 1;").ledge(0, 0, hour), NONE);
            check.same("no order", Tape.withRail("permit 0;needs 0 1;needs 0 2;clerk 1 0;clerk 2 0;law 1 2;law 2 1;").ledge(0, 0, hour), NONE);
            for (int rail : NO_RAILS) {
                check.same("rail " + rail, x.ledge(rail, 0, hour), NONE);
            }
            for (int permit : NO_PERMITS) {
                check.same("permit " + permit, x.ledge(0, permit, hour), NONE);
            }
        }
    }

    private static void busy() {
        check.sentence("BUSY: the LAND (NONE: none is NEEDED), or (many) how many. -2: there is none such.");
        for (String none : new String[] {"", "permit 0;", "lands 6;permit 5;".repeat(8)}) {
            check.same("none is needed", Tape.withRail(none).busy(0, false), NONE);
            check.same("none is needed, many", Tape.withRail(none).busy(0, true), 0);
        }
        ElsewhereStamps full = Tape.withRail(Tales.full());
        // 1 to 4 by two, 5 by two, 0 by one.
        check.same("of several the least", full.busy(0, false), 1);
        check.same("two", full.busy(0, true), 2);
        StringBuilder eight = new StringBuilder("lands 6;" + "permit 0;".repeat(8));
        for (int p = 0; p < 8; p++) {
            eight.append(Tales.line("needs", p, 5));
        }
        check.same("the last land", Tape.withRail(eight.toString()).busy(0, false), 5);
        check.same("by all eight", Tape.withRail(eight.toString()).busy(0, true), 8);
        check.same("the first land", Tape.withRail("permit 1;needs 0 0;needs 0 2;").busy(0, false), 0);
        for (boolean many : BOTH) {
            for (int rail : NO_RAILS) {
                check.same("rail " + rail, full.busy(rail, many), -2);
            }
        }
    }

    private static void stuck() {
        check.sentence("STUCK: PERMITS (bits) of which the LAWS allow no order.");
        StringBuilder rail = new StringBuilder("permit 0;".repeat(8) + "law 1 2;law 2 1;");
        int bits = 0;
        for (int p = 7; p >= 0; p--) {
            rail.append(Tales.line("needs", p, 1));
            check.same("one of both marks", Tape.withRail(rail.toString()).stuck(0), bits);
            rail.append(Tales.line("needs", p, 2));
            bits |= 1 << p;
            check.same("both marks", Tape.withRail(rail.toString()).stuck(0), bits);
        }
        check.same("no permits", Tape.withRail("law 1 2;law 2 1;").stuck(0), 0);
        check.same("six laws round, five of them needed", Tape.withRail(Tales.full()).stuck(0), 0);
        check.same("round in five", Tape.withRail(FIVE + "law 1 2;law 2 3;law 3 4;law 4 5;law 5 1;").stuck(0), 1);
        check.same("not round in five", Tape.withRail(FIVE + "law 1 2;law 2 3;law 3 4;law 4 5;law 1 5;").stuck(0), 0);
        check.sentence("NONE: there is none such. (stuck)");
        for (int odd : NO_RAILS) {
            check.same("rail " + odd, Tape.withRail(Tales.full()).stuck(odd), NONE);
        }
    }

    /** What an earlier question has left behind is not seen by a later one. */
    private static void usedObject() {
        check.sentence("(Of a RAIL as told.)");
        ElsewhereStamps x = Tape.withRail(Tales.full());
        Tape.tell(x, "lands 2;permit 0;needs 0 1;clerk 1 0;", Tape.RAIL, NONE);
        for (int turn = 0; turn < 3; turn++) {
            check.same("orders of the one", x.orders(0, 7, NONE), 1);
            check.same("orders of the other", x.orders(1, 0, NONE), 1);
            check.same("orders of one that needs none", x.orders(0, 1, NONE), 1);
            check.same("orders of five", x.orders(0, 6, NONE), 1);
            check.same("round of the one", x.round(0, 1, NONE), 8);
            check.same("round of the other", x.round(1, 0, NONE), 1);
            check.same("ring of the one", x.ring(0, 0), 2);
            check.same("ring of the other", x.ring(1, 0), NONE);
            check.same("asks of the one", x.ring(0, 15), 31);
            check.same("asks of the other", x.ring(1, 11), 0);
        }
    }
}
