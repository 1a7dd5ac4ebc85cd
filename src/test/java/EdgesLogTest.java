/** The boundary cases of promises 20 and 31, with terms 4 and 6, sentence by sentence. */
public final class EdgesLogTest {
    private static final int NONE = ElsewhereStamps.NONE;
    private static final int LEAST = Integer.MIN_VALUE;
    private static final int MOST = Integer.MAX_VALUE;
    private static final int[] NO_NUMBERS = {LEAST, -3, -2, -1, 1, 2, 3, MOST};
    private static final Check check = new Check("EdgesLogTest");

    private EdgesLogTest() {
    }

    public static void main(String[] args) {
        anyLand();
        stoodThere();
        lastHours();
        ridesBeyond();
        couldHours();
        free();
        seenThatIsNotThere();
        cannotBe();
        eightSights();
        couldRefused();
        certain();
        certainOfSeveral();
        certainRefused();
        oneLogAndAnother();
        check.finish();
    }

    private static ElsewhereStamps withLog(String rail, String log) {
        ElsewhereStamps x = Tape.withRail(rail);
        check.same("log '" + log + "'", Tape.tell(x, log, Tape.LOG, NONE), 0);
        return x;
    }

    private static void expectCould(String name, ElsewhereStamps x, int from, int to, int due) {
        for (int hour = from; hour <= to; hour++) {
            check.same(name + ", could " + hour, x.could(0, 0, hour), due);
        }
    }

    private static void impossible(String rail, String log) {
        ElsewhereStamps x = withLog(rail, log);
        for (int hour = -2; hour < 100; hour++) {
            check.same("'" + rail + "' '" + log + "' could " + hour, x.could(0, 0, hour), NONE);
        }
        check.same("'" + log + "' certain", x.certain(0, 0, false), -2);
        check.same("'" + log + "' certain, first", x.certain(0, 0, true), -2);
    }

    private static void anyLand() {
        check.sentence("a CLERK was in any LAND at HOUR 0, rode and waited, as may be");
        for (int lands = 2; lands <= 6; lands++) {
            ElsewhereStamps x = withLog("lands " + lands + ";", "");
            expectCould("no sights, " + lands, x, 0, 99, (1 << lands) - 1);
            check.same("began", x.could(0, 0, NONE), (1 << lands) - 1);
            check.same("free", x.could(0, 0, -2), 100);
        }
        ElsewhereStamps full = withLog(Tales.full(), "");
        expectCould("full, no sights", full, 0, 99, 63);
        // No CLERK need be told of.
        ElsewhereStamps y = withLog("lands 6;", "seen 5 0;");
        expectCould("seen at first", y, 0, 99, 32);
        check.same("began", y.could(0, 0, NONE), 32);
    }

    private static void stoodThere() {
        check.sentence("at each HOUR of a SIGHT he stood there (had come, had not yet left).");
        String rail = "lands 2;train 0 1 4 3;";
        ElsewhereStamps x = withLog(rail, "seen 0 4;seen 1 7;");
        expectCould("before he left", x, 0, 4, 1);
        expectCould("in the train", x, 5, 6, 0);
        expectCould("had come", x, 7, 99, 2);
        impossible(rail, "seen 0 5;seen 1 7;");
        impossible(rail, "seen 0 4;seen 1 6;");
        impossible(rail, "seen 1 3;seen 0 4;");
        // A SIGHT in the midst of the ride: he rode a DAY later.
        ElsewhereStamps y = withLog(rail, "seen 0 5;seen 1 19;");
        expectCould("a day later", y, 0, 16, 1);
        expectCould("in the train", y, 17, 18, 0);
        expectCould("had come", y, 19, 99, 2);
        // In the HOUR in which he comes he can leave.
        ElsewhereStamps z = withLog("train 0 1 4 3;train 1 2 7 1;", "seen 0 4;seen 2 8;");
        check.same("comes and leaves at 7", z.could(0, 0, 7), 2);
        check.same("there at 8", z.could(0, 0, 8), 4);
        ElsewhereStamps w = withLog("train 0 1 4 3;train 1 2 7 1;", "seen 0 4;seen 1 7;seen 2 8;");
        check.same("seen while he comes and leaves", w.could(0, 0, 7), 2);
    }

    private static void lastHours() {
        check.sentence("a CLERK stood in a LAND, 0 .. 5, at an HOUR, 0 .. 99.");
        // It leaves at 63, 75, 87 and takes 24: the one at 75 comes at 99, the one at 87 too late.
        ElsewhereStamps x = withLog("lands 2;train 1 0 3 24;", "seen 0 99;");
        expectCould("until 75", x, 0, 75, 3);
        expectCould("behind 75", x, 76, 99, 1);
        // It leaves at 64, 76: the one at 76 comes at 100.
        ElsewhereStamps y = withLog("lands 2;train 1 0 4 24;", "seen 0 99;");
        expectCould("until 64", y, 0, 64, 3);
        expectCould("behind 64", y, 65, 99, 1);
        ElsewhereStamps z = withLog("lands 2;train 1 0 2 1;", "seen 0 99;");
        expectCould("until 98", z, 0, 98, 3);
        expectCould("at 99", z, 99, 99, 1);
        ElsewhereStamps first = withLog("lands 2;train 0 1 0 1;", "seen 0 0;seen 1 1;");
        check.same("left at 0", first.could(0, 0, 0), 1);
        check.same("had come at 1", first.could(0, 0, 1), 2);
        check.same("seen in the last land", withLog("lands 6;", "seen 5 99;").could(0, 0, 0), 32);
    }

    /** Where it goes behind HOUR 99 does not matter, but he may ride there. */
    private static void ridesBeyond() {
        check.sentence("COULD of an HOUR, 0 .. 99: LANDS (bits) in which he could stand at that HOUR, so that all SIGHTS are so");
        for (int takes = 20; takes <= 24; takes++) {
            // It leaves at 76 and comes at 96 to 100.
            ElsewhereStamps x = withLog("lands 2;train 1 0 4 " + takes + ";", "seen 1 76;");
            expectCould("until he comes, takes " + takes, x, 0, 75 + takes, 2);
            expectCould("he could have come, takes " + takes, x, 76 + takes, 99, 3);
        }
        ElsewhereStamps x = withLog("lands 2;train 1 0 3 24;", "seen 1 99;");
        expectCould("leaves at 99 or not", x, 0, 99, 2);
        ElsewhereStamps y = withLog("lands 2;train 1 0 3 1;train 0 1 3 1;", "seen 1 98;");
        expectCould("before he was seen", y, 0, 87, 3);
        expectCould("a little before", y, 88, 99, 2);
    }

    private static void couldHours() {
        check.sentence("COULD of an HOUR, 0 .. 99 (bits), or (hour NONE) BEGAN (bits), or (hour -2) FREE.");
        ElsewhereStamps x = withLog("train 0 1 2 3;", "seen 1 5;");
        check.same("began", x.could(0, 0, NONE), 3);
        check.same("hour 0", x.could(0, 0, 0), 3);
        check.same("hour 2", x.could(0, 0, 2), 3);
        check.same("hour 3", x.could(0, 0, 3), 2);
        check.same("hour 99", x.could(0, 0, 99), 2);
        check.same("free", x.could(0, 0, -2), 3);
        for (int hour : new int[] {LEAST, -100, -4, -3, 100, 101, 1000, MOST}) {
            check.same("hour " + hour, x.could(0, 0, hour), NONE);
        }
    }

    private static void free() {
        check.sentence("FREE: in how many of HOURS 0 to 99 there is more than one such LAND, or none (he rides for sure).");
        check.same("more than one all the time", withLog("lands 2;", "").could(0, 0, -2), 100);
        check.same("one all the time", withLog("lands 2;", "seen 0 50;").could(0, 0, -2), 0);
        // Four rides of a day and a day, one behind the other: he stands in the hours between them and behind them alone.
        String rail = "lands 2;train 0 1 0 24;train 1 0 0 24;";
        ElsewhereStamps x = withLog(rail, "seen 0 0;seen 1 24;seen 0 48;seen 1 72;seen 0 96;");
        check.same("he rides for sure", x.could(0, 0, -2), 4 * 23);
        check.same("none at 23", x.could(0, 0, 23), 0);
        check.same("one at 24", x.could(0, 0, 24), 2);
        check.same("one at 99", x.could(0, 0, 99), 1);
        check.same("more than one at the first hour alone", withLog("lands 2;train 0 1 0 1;", "seen 1 1;").could(0, 0, -2), 1);
        check.same("more than one at the last hour alone", withLog("lands 2;train 0 1 2 1;", "seen 0 97;").could(0, 0, -2), 1);
    }

    private static void seenThatIsNotThere() {
        check.sentence("NONE: another HOUR, a LAND that was seen is not there, it can't be as seen, or there is none such (of either).");
        for (int lands = 2; lands <= 6; lands++) {
            for (int land = 0; land < 6; land++) {
                String log = "seen " + land + " 99;";
                if (land < lands) {
                    expectCould("there", withLog("lands " + lands + ";", log), 0, 99, 1 << land);
                } else {
                    impossible("lands " + lands + ";", log);
                    impossible("lands " + lands + ";", "seen 0 0;" + log);
                }
            }
        }
    }

    private static void cannotBe() {
        check.sentence("it can't be as seen");
        impossible("", "seen 0 0;seen 1 0;");
        impossible("", "seen 0 99;seen 1 99;");
        impossible("", "seen 1 5;seen 0 5;seen 1 5;");
        impossible("", "seen 0 0;seen 1 99;");
        impossible("train 0 1 0 24;", "seen 0 76;seen 1 99;");
        impossible("train 0 1 3 24;", "seen 0 76;seen 1 99;");
        check.same("just so", withLog("train 0 1 3 24;", "seen 0 75;seen 1 99;").could(0, 0, 99), 2);
        // Each two go, all three do not.
        String rail = "train 0 1 0 1;train 1 2 0 1;";
        impossible(rail, "seen 0 12;seen 1 13;seen 2 14;");
        check.same("a day later", withLog(rail, "seen 0 12;seen 1 13;seen 2 25;").could(0, 0, 24), 2);
        // At one HOUR twice in one LAND is once.
        check.same("twice in one land", withLog("", "seen 2 7;seen 2 7;").could(0, 0, 7), 4);
    }

    private static void eightSights() {
        check.sentence("A LOG has SIGHTS, at most 8, from 0 on");
        // From 0 to 1 and back, seen on each side, told from the last to the first.
        String rail = "lands 2;train 0 1 0 6;train 1 0 6 6;";
        StringBuilder log = new StringBuilder();
        for (int k = 7; k >= 0; k--) {
            log.append(Tales.line("seen", k % 2, 6 * k));
        }
        ElsewhereStamps x = withLog(rail, log.toString());
        for (int hour = 0; hour <= 42; hour++) {
            check.same("could " + hour, x.could(0, 0, hour), hour % 6 != 0 ? 0 : hour % 12 == 0 ? 1 : 2);
        }
        // At 42 he could leave once more, and come at 48.
        check.same("behind the last", x.could(0, 0, 47), 2);
        check.same("behind the last, he could have come", x.could(0, 0, 48), 3);
        // The eighth counts: at 1 in land 0 he has missed the train.
        impossible(rail, log.substring(0, log.length() - "seen 0 0;".length()) + "seen 0 1;");
    }

    private static void couldRefused() {
        check.sentence("or there is none such (of either).");
        ElsewhereStamps x = withLog("lands 2;", "");
        for (int hour = -2; hour < 100; hour += 17) {
            for (int odd : NO_NUMBERS) {
                check.same("rail " + odd, x.could(odd, 0, hour), NONE);
                check.same("log " + odd, x.could(0, odd, hour), NONE);
            }
        }
        check.same("no log", Tape.withRail("").could(0, 0, 0), NONE);
        ElsewhereStamps y = new ElsewhereStamps();
        Tape.tell(y, "", Tape.LOG, NONE);
        check.same("no rail", y.could(0, 0, 0), NONE);
    }

    private static void certain() {
        check.sentence("CERTAIN: the most HOURS, of 0 to 99, one behind the other, at each of which there is just one LAND .. the same one");
        ElsewhereStamps all = withLog("lands 2;", "seen 1 0;");
        check.same("all the time", all.certain(0, 0, false), 100);
        check.same("from 0 on", all.certain(0, 0, true), 0);
        ElsewhereStamps none = withLog("lands 2;", "");
        check.same("never", none.certain(0, 0, false), 0);
        check.same("no first", none.certain(0, 0, true), NONE);
        ElsewhereStamps last = withLog("lands 2;train 0 1 2 1;train 1 0 2 1;", "seen 1 99;");
        check.same("at 99 alone", last.certain(0, 0, false), 1);
        check.same("99", last.certain(0, 0, true), 99);
        // He is in 0 until 50 and in 1 from 51 on: the same one, not just one.
        ElsewhereStamps two = withLog("lands 2;train 0 1 2 1;", "seen 0 50;seen 1 51;");
        check.same("in 0", two.certain(0, 0, false), 51);
        check.same("in 0 from 0 on", two.certain(0, 0, true), 0);
        ElsewhereStamps later = withLog("lands 2;train 0 1 0 1;", "seen 0 48;seen 1 49;");
        check.same("in 1", later.certain(0, 0, false), 51);
        check.same("in 1 from 49 on", later.certain(0, 0, true), 49);
        check.same("none while he rides", withLog("lands 2;train 0 1 2 24;", "seen 0 26;seen 1 50;").certain(0, 0, false), 50);
    }

    private static void certainOfSeveral() {
        check.sentence("the first of them.");
        // In 0 up to 49, in 1 from 50 on: as long, the first counts.
        ElsewhereStamps x = withLog("lands 2;train 0 1 1 1;", "seen 0 49;seen 1 50;");
        check.same("fifty", x.certain(0, 0, false), 50);
        check.same("the first fifty", x.certain(0, 0, true), 0);
    }

    private static void certainRefused() {
        check.sentence("-2: as NONE of could().");
        ElsewhereStamps x = withLog("lands 2;", "seen 0 0;");
        for (boolean first : new boolean[] {false, true}) {
            for (int odd : NO_NUMBERS) {
                check.same("rail " + odd, x.certain(odd, 0, first), -2);
                check.same("log " + odd, x.certain(0, odd, first), -2);
            }
            check.same("no log", Tape.withRail("").certain(0, 0, first), -2);
        }
    }

    /** What one LOG has left behind is not seen by the next. */
    private static void oneLogAndAnother() {
        check.sentence("By a LOG of a RAIL");
        ElsewhereStamps x = withLog("lands 2;train 0 1 0 1;train 1 0 0 1;", "");
        Tape.tell(x, "seen 0 1;", Tape.LOG, NONE);
        Tape.tell(x, "lands 2;", Tape.RAIL, NONE);
        for (int turn = 0; turn < 3; turn++) {
            check.same("with trains, not seen", x.could(0, 0, 1), 3);
            check.same("without trains, seen", x.could(1, 1, 99), 1);
            check.same("without trains, seen, free", x.could(1, 1, -2), 0);
            check.same("with trains, seen", x.could(0, 1, 12), 1);
            check.same("with trains, seen, later", x.could(0, 1, 13), 3);
            check.same("without trains, not seen", x.could(1, 0, 99), 3);
        }
        // Seen at the first HOUR, behind a LOG by which he could be anywhere in each.
        Tape.tell(x, "seen 0 0;", Tape.LOG, 1);
        for (int hour = 0; hour < 100; hour++) {
            check.same("anywhere at " + hour, x.could(1, 0, hour), 3);
            check.same("where he was seen at first, at " + hour, x.could(1, 1, hour), 1);
        }
        Tape.tell(x, "seen 5 0;", Tape.LOG, 0);
        check.same("not there", x.could(0, 0, 0), NONE);
        check.same("the other one", x.could(0, 1, 0), 1);
        Tape.tell(x, "", Tape.LOG, 0);
        check.same("not seen any more", x.could(1, 0, 0), 3);
    }
}
