/** Promises 1 to 7, 19, 34 to 36: what is told, and images of it. */
public final class TellingTest {
    private static final int NONE = ElsewhereStamps.NONE;
    private static final int[] ODD = {Integer.MIN_VALUE, -100, -3, 9, 99, 1000, Integer.MAX_VALUE};
    private static final Check check = new Check("TellingTest");

    private TellingTest() {
    }

    public static void main(String[] args) {
        newObject();
        feed();
        end();
        textNumbers();
        textTakesTheTape();
        textInPlace();
        fault();
        rail();
        railAtFirst();
        deed();
        sight();
        count();
        images();
        imagesOfAll();
        check.finish();
    }

    private static void newObject() {
        ElsewhereStamps x = new ElsewhereStamps();
        for (int sort = 0; sort < 3; sort++) {
            check.same("new count " + sort, x.count(sort), 0);
        }
        check.same("new fault", x.fault(0), 0);
        check.same("new place", x.fault(1), NONE);
        check.same("new tape", x.end(1), NONE);
        check.same("new rail", x.rail(0, 0), NONE);
        check.same("new month", x.deed(0, NONE, 0), -2);
        check.same("new log", x.sight(0, NONE, 0), -2);
        for (int k = 0; k < 3; k++) {
            check.same("new again " + k, x.again(k), false);
        }
        check.same("NONE", ElsewhereStamps.NONE, -1);
    }

    private static void feed() {
        ElsewhereStamps x = new ElsewhereStamps();
        for (int n = 20; n <= 600; n += 20) {
            check.same("feed", x.feed(0, -1, n, Integer.MIN_VALUE, Integer.MAX_VALUE), n);
        }
        check.same("feed beyond 600", x.feed(1, 2, 3, 4, 5), NONE);
        check.same("nothing came", x.end(600), 600);
        check.same("end 581", x.end(581), 581);
        check.same("601 would be too many", x.feed(1, 2, 3, 4, 5), NONE);
        check.same("end 580", x.end(580), 580);
        check.same("600 are not", x.feed(1, 2, 3, 4, 5), 600);
        // The highest byte first, the numbers in order: "seen 1 2;" and blanks.
        ElsewhereStamps y = new ElsewhereStamps();
        y.feed(0x7365656e, 0x20312032, 0x3b202020, 0x20202020, 0x0a0a0a0a);
        check.same("bytes in order", y.text(2, NONE), 0);
        check.same("land", y.sight(0, 0, 0), 1);
        check.same("hour", y.sight(0, 0, 1), 2);
        // A tape that was cut goes on where it ends.
        y.feed(0x7365656e, 0x20312032, 0x3b202020, 0x20202020, 0x0a0a0a0a);
        y.end(9);
        y.feed(0x7365656e, 0x20322033, 0x3b202020, 0x20202020, 0x20202020);
        check.same("two lines", y.text(2, NONE), 1);
        check.same("two sights", y.sight(1, NONE, 0), 2);
        check.same("the second", y.sight(1, 1, 1), 3);
    }

    private static void end() {
        ElsewhereStamps x = new ElsewhereStamps();
        check.same("end 0 of none", x.end(0), 0);
        check.same("end 1 of none", x.end(1), NONE);
        x.feed(0, 0, 0, 0, 0);
        check.same("end 21 of 20", x.end(21), NONE);
        check.same("end below 0", x.end(-1), NONE);
        check.same("end of the least", x.end(Integer.MIN_VALUE), NONE);
        check.same("end of the most", x.end(Integer.MAX_VALUE), NONE);
        check.same("end 20", x.end(20), 20);
        check.same("end 7", x.end(7), 7);
        check.same("end 8 of 7", x.end(8), NONE);
        check.same("feed behind 7", x.feed(0, 0, 0, 0, 0), 27);
    }

    private static void textNumbers() {
        ElsewhereStamps x = new ElsewhereStamps();
        String[] texts = {"lands 4;", "wait 0 1;", "seen 0 1;"};
        for (int sort = 0; sort < 3; sort++) {
            check.same("none to replace", Tape.tell(x, texts[sort], sort, 0), -2);
            check.same("first", Tape.tell(x, texts[sort], sort, NONE), 0);
            check.same("none such", Tape.tell(x, texts[sort], sort, 1), -2);
            check.same("second", Tape.tell(x, texts[sort], sort, NONE), 1);
            check.same("as many as may be", Tape.tell(x, texts[sort], sort, NONE), -2);
            check.same("in the place of the first", Tape.tell(x, texts[sort], sort, 0), 0);
            check.same("in the place of the second", Tape.tell(x, texts[sort], sort, 1), 1);
            check.same("no third", Tape.tell(x, texts[sort], sort, 2), -2);
            for (int odd : ODD) {
                check.same("at " + odd, Tape.tell(x, texts[sort], sort, odd), -2);
            }
            check.same("at -2", Tape.tell(x, texts[sort], sort, -2), -2);
            check.same("two", x.count(sort), 2);
        }
        for (int odd : ODD) {
            check.same("sort " + odd, Tape.tell(x, "", odd, NONE), -2);
            check.same("sort " + odd + " at 0", Tape.tell(x, "", odd, 0), -2);
        }
        check.same("sort 3", Tape.tell(x, "", 3, 0), -2);
        check.same("sort -1", Tape.tell(x, "", -1, 0), -2);
    }

    private static void textTakesTheTape() {
        ElsewhereStamps x = new ElsewhereStamps();
        Tape.tell(x, "lands 4;", 0, NONE);
        check.same("taken", x.end(1), NONE);
        Tape.tell(x, "lands 1;", 0, NONE);
        check.same("taken with a fault", x.end(1), NONE);
        // No text is read where the answer is -2, but the tape is taken all the same.
        checkRefusedTakesTape("none such", x, 0, 1);
        checkRefusedTakesTape("none such by far", x, 0, Integer.MAX_VALUE);
        checkRefusedTakesTape("none below NONE", x, 0, -2);
        checkRefusedTakesTape("no month yet", x, 1, 0);
        checkRefusedTakesTape("no log yet", x, 2, 0);
        for (int odd : ODD) {
            checkRefusedTakesTape("sort " + odd, x, odd, NONE);
            checkRefusedTakesTape("sort " + odd + " at 0", x, odd, 0);
        }
        checkRefusedTakesTape("no such sort", x, 3, NONE);
        for (int sort = 0; sort < 3; sort++) {
            while (x.count(sort) < 2) {
                Tape.tell(x, "", sort, NONE);
            }
            checkRefusedTakesTape("as many as may be, sort " + sort, x, sort, NONE);
            checkRefusedTakesTape("a third one, sort " + sort, x, sort, 2);
        }
        check.same("what stood stands", x.rail(0, 0), 4);
    }

    private static void checkRefusedTakesTape(String name, ElsewhereStamps x, int sort, int at) {
        x.end(0);
        for (int row = 1; row <= 30; row++) {
            x.feed(0, 0, 0, 0, 0);
        }
        check.same(name + ", the tape is full", x.feed(0, 0, 0, 0, 0), NONE);
        check.same(name, x.text(sort, at), -2);
        check.same(name + ", the fault", x.fault(0), 0);
        check.same(name + ", its place", x.fault(1), NONE);
        check.same(name + ", the tape is taken", x.end(1), NONE);
        check.same(name + ", the tape begins anew", x.feed(0, 0, 0, 0, 0), 20);
        x.end(0);
    }

    private static void textInPlace() {
        ElsewhereStamps x = Tape.withRail(Tales.RAIL);
        check.same("a fault", Tape.tell(x, "lands 9;", 0, 0), NONE);
        check.same("stays as it was", x.rail(0, 1), 4);
        check.same("how many stay", x.count(0), 1);
        check.same("another in its place", Tape.tell(x, "lands 5;permit 4;", 0, 0), 0);
        check.same("its lands", x.rail(0, 0), 5);
        check.same("no trains", x.rail(0, 1), 0);
        check.same("needs none", x.rail(0, 40), 0);
        check.same("soonest is forgotten", x.soonest(0, 0, 0, 1, false), -2);
        Tape.tell(x, Tales.RAIL, 0, 0);
        check.same("soonest once more", x.soonest(0, 0, 0, 1, false), 5);
        Tape.tell(x, Tales.RAIL.replace("train 0 1 2 3", "train 0 1 4 3"), 0, 0);
        check.same("soonest by another hour", x.soonest(0, 0, 0, 1, false), 7);
    }

    private static void fault() {
        ElsewhereStamps x = new ElsewhereStamps();
        Tape.tell(x, "lands 1;", 0, NONE);
        check.same("fault 2", x.fault(0), 2);
        check.same("its place", x.fault(1), 6);
        check.same("another what", x.fault(2), NONE);
        check.same("another what", x.fault(-1), NONE);
        for (int odd : ODD) {
            check.same("fault " + odd, x.fault(odd), NONE);
        }
        Tape.tell(x, "lands 1;", 7, NONE);
        check.same("no text read, fault 0", x.fault(0), 0);
        check.same("no place", x.fault(1), NONE);
        Tape.tell(x, "x", 1, NONE);
        check.same("fault 1", x.fault(0), 1);
        check.same("at 0", x.fault(1), 0);
        Tape.tell(x, "x", 1, 0);
        check.same("none to replace, fault 0", x.fault(0), 0);
        Tape.tell(x, "x", 1, NONE);
        Tape.tell(x, "wait 0 1;", 1, NONE);
        check.same("without", x.fault(0), 0);
        check.same("without a place", x.fault(1), NONE);
    }

    private static void rail() {
        ElsewhereStamps x = Tape.withRail(Tales.RAIL);
        int[][] due = {{0, 3}, {1, 4}, {2, 2}, {3, 1}, {4, 2}, {5, NONE}, {9, NONE}, {10, 0}, {11, 1}, {12, NONE},
            {20, 0}, {21, 1}, {22, NONE}, {30, 1}, {31, 2}, {32, NONE}, {40, 1}, {41, 3}, {42, NONE}, {50, 0},
            {51, NONE}, {60, 1}, {61, NONE}, {70, NONE}, {99, NONE}, {100, 0}, {101, 1}, {102, 1}, {103, 2},
            {104, NONE}, {200, 1}, {201, 0}, {202, 2}, {203, 0}, {204, NONE}, {300, 2}, {301, 5}, {302, 6}, {303, 0},
            {304, NONE}, {400, 3}, {401, 4}, {402, 2}, {403, 5}, {404, NONE}, {500, NONE}, {1000, NONE}};
        for (int[] row : due) {
            check.same("rail " + row[0], x.rail(0, row[0]), row[1]);
        }
        for (int odd : ODD) {
            check.same("what " + odd, x.rail(0, odd), NONE);
            check.same("rail " + odd, x.rail(odd, 0), NONE);
        }
        check.same("what -1", x.rail(0, -1), NONE);
        check.same("no second rail", x.rail(1, 0), NONE);
        check.same("no rail NONE", x.rail(NONE, 0), NONE);
        Tape.tell(x, "lands 6;lands 2;permit 0;permit 0;needs 1 1;needs 1 1;clerk 1 0;clerk 0 1;", 0, NONE);
        check.same("the last lands", x.rail(1, 0), 2);
        check.same("needs once", x.rail(1, 41), 2);
        check.same("of a land", x.rail(1, 10), 1);
        check.same("in a land", x.rail(1, 20), 0);
        check.same("the first rail is as it was", x.rail(0, 0), 3);
    }

    private static void railAtFirst() {
        ElsewhereStamps x = Tape.withRail(Tales.EMPTY);
        check.same("three lands at first", x.rail(0, 0), 3);
        for (int what = 1; what <= 4; what++) {
            check.same("nothing else", x.rail(0, what), 0);
        }
    }

    private static void deed() {
        ElsewhereStamps x = new ElsewhereStamps();
        check.same("month", Tape.tell(x, "ride 3 11;wait 0 24;mark 2 7;", 1, NONE), 0);
        int[][] due = {{0, 3, 11}, {1, 0, 24}, {2, 2, 7}};
        check.same("deeds", x.deed(0, NONE, 0), 3);
        for (int k = 0; k < 3; k++) {
            for (int what = 0; what < 3; what++) {
                check.same("deed " + k + " " + what, x.deed(0, k, what), due[k][what]);
            }
            check.same("what 3", x.deed(0, k, 3), -2);
            check.same("what -1", x.deed(0, k, -1), -2);
        }
        check.same("how many, what 1", x.deed(0, NONE, 1), -2);
        check.same("deed 3", x.deed(0, 3, 0), -2);
        check.same("deed -2", x.deed(0, -2, 0), -2);
        check.same("month 1", x.deed(1, 0, 0), -2);
        check.same("month -1", x.deed(-1, 0, 0), -2);
        for (int odd : ODD) {
            check.same("odd", x.deed(odd, 0, 0), -2);
            check.same("odd", x.deed(0, odd, 0), -2);
            check.same("odd", x.deed(0, 0, odd), -2);
        }
    }

    private static void sight() {
        ElsewhereStamps x = new ElsewhereStamps();
        check.same("log", Tape.tell(x, "seen 5 99;seen 0 0;", 2, NONE), 0);
        check.same("sights", x.sight(0, NONE, 0), 2);
        check.same("land", x.sight(0, 0, 0), 5);
        check.same("hour", x.sight(0, 0, 1), 99);
        check.same("land", x.sight(0, 1, 0), 0);
        check.same("hour", x.sight(0, 1, 1), 0);
        check.same("what 2", x.sight(0, 0, 2), -2);
        check.same("what -1", x.sight(0, 0, -1), -2);
        check.same("how many, what 1", x.sight(0, NONE, 1), -2);
        check.same("sight 2", x.sight(0, 2, 0), -2);
        check.same("sight -2", x.sight(0, -2, 0), -2);
        check.same("log 1", x.sight(1, 0, 0), -2);
        for (int odd : ODD) {
            check.same("odd", x.sight(odd, 0, 0), -2);
            check.same("odd", x.sight(0, odd, 0), -2);
            check.same("odd", x.sight(0, 0, odd), -2);
        }
    }

    private static void count() {
        ElsewhereStamps x = Tape.withRail(Tales.RAIL);
        Tape.tell(x, "", 1, NONE);
        Tape.tell(x, "", 1, NONE);
        check.same("rails", x.count(0), 1);
        check.same("months", x.count(1), 2);
        check.same("logs", x.count(2), 0);
        check.same("sort 3", x.count(3), -2);
        check.same("sort -1", x.count(-1), -2);
        for (int odd : ODD) {
            check.same("sort " + odd, x.count(odd), -2);
        }
    }

    private static void images() {
        ElsewhereStamps x = new ElsewhereStamps();
        int[] odds = {Integer.MIN_VALUE, -1, 3, Integer.MAX_VALUE};
        for (int odd : odds) {
            check.same("image " + odd, x.image(odd), false);
            check.same("again " + odd, x.again(odd), false);
        }
        check.same("no image 2", x.again(2), false);
        check.same("image 2", x.image(2), true);
        check.same("no image 1", x.again(1), false);
        Tape.tell(x, Tales.RAIL, 0, NONE);
        check.same("image 1", x.image(1), true);
        check.same("again 2", x.again(2), true);
        check.same("no rail", x.count(0), 0);
        check.same("no rail to ask", x.rail(0, 0), NONE);
        check.same("again 1", x.again(1), true);
        check.same("a rail", x.rail(0, 1), 4);
        Tape.tell(x, Tales.NO_TRAINS, 0, 0);
        check.same("image 1 anew", x.image(1), true);
        Tape.tell(x, Tales.RAIL, 0, 0);
        check.same("again 1 anew", x.again(1), true);
        check.same("no trains", x.rail(0, 1), 0);
        check.same("again twice", x.again(1), true);
        check.same("no trains still", x.rail(0, 1), 0);
        check.same("image 0 is none", x.again(0), false);
    }

    /** The tape and the FAULT come back too; an image does not change with what is told later. */
    private static void imagesOfAll() {
        ElsewhereStamps x = Tape.withRail(Tales.RAIL);
        Tape.tell(x, Tales.MONTH, 1, NONE);
        Tape.tell(x, Tales.LOG, 2, NONE);
        Tape.tell(x, "lands 1;", 0, NONE);
        Tape.put(x, "seen 2 44;");
        check.same("soonest", x.soonest(0, 0, 0, 2, false), 8);
        check.same("image", x.image(0), true);
        x.end(0);
        Tape.tell(x, Tales.NO_TRAINS, 0, 0);
        Tape.tell(x, "lands 6;", 0, NONE);
        Tape.tell(x, "wait 0 1;", 1, 0);
        Tape.tell(x, "", 2, 0);
        Tape.put(x, "xxxxxxxxxxxxxxxxxxxxxxxxxxxxxxx");
        check.same("never now", x.soonest(0, 0, 0, 1, false), -2);
        check.same("again", x.again(0), true);
        check.same("fault", x.fault(0), 2);
        check.same("place", x.fault(1), 6);
        check.same("rails", x.count(0), 1);
        check.same("soonest as it was", x.soonest(0, 0, 0, 2, false), 8);
        check.same("month as it was", x.deed(0, NONE, 0), 8);
        check.same("log as it was", x.sight(0, 1, 1), 6);
        check.same("the tape has ten", x.end(11), NONE);
        check.same("the tape is as it was", x.text(2, NONE), 1);
        check.same("its hour", x.sight(1, 0, 1), 44);
        check.same("again once more", x.again(0), true);
        check.same("one log", x.count(2), 1);
        check.same("the tape once more", x.end(10), 10);
    }
}
