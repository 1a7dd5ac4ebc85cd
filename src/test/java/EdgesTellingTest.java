/** The boundary cases of promises 1 to 7, 19, 34 to 36, sentence by sentence. */
public final class EdgesTellingTest {
    private static final int NONE = ElsewhereStamps.NONE;
    private static final int LEAST = Integer.MIN_VALUE;
    private static final int MOST = Integer.MAX_VALUE;
    private static final int[] NO_NUMBERS = {LEAST, LEAST + 1, -1000, -3, -2, 2, 3, 1000, MOST - 1, MOST};
    private static final String[] TEXTS = {"lands 4;", "wait 0 1;", "seen 0 1;"};
    private static final Check check = new Check("EdgesTellingTest");

    private EdgesTellingTest() {
    }

    public static void main(String[] args) {
        calls512();
        newObject();
        feedBytes();
        feedFull();
        end();
        endRefused();
        textFurther();
        textInPlace();
        textFault();
        textRefused();
        fault();
        faultOtherWhat();
        railFull();
        railEmpty();
        railNoneSuch();
        deedAll();
        deedNoneSuch();
        sightAll();
        sightNoneSuch();
        count();
        imageNumbers();
        imageOfAll();
        imagesApart();
        againNone();
        askingTellsNothing();
        check.finish();
    }

    private static void calls512() {
        check.sentence("An object is used for at most 512 calls after it has been made");
        ElsewhereStamps x = new ElsewhereStamps();
        // "lands 2;train 0 1 3 2;" by two calls, one to cut it, one to take it.
        x.feed(0x6c616e64, 0x7320323b, 0x74726169, 0x6e203020, 0x31203320);
        x.feed(0x323b2020, 0x20202020, 0x20202020, 0x20202020, 0x20202020);
        check.same("the third call", x.end(22), 22);
        check.same("the fourth call", x.text(0, NONE), 0);
        for (int call = 5; call <= 512; call++) {
            int hour = call % 100;
            int due = hour + Math.floorMod(3 - hour, 12) + 2;
            check.same("call " + call, x.soonest(0, 0, hour, 1, false), due);
        }
        ElsewhereStamps y = new ElsewhereStamps();
        for (int call = 1; call <= 512; call++) {
            check.same("feed " + call, y.feed(call, 0, 0, 0, 0), call <= 30 ? 20 * call : NONE);
        }
        ElsewhereStamps z = new ElsewhereStamps();
        for (int call = 1; call <= 510; call += 3) {
            check.same("image " + call, z.image(call % 3), true);
            check.same("text " + call, z.text(0, z.count(0) < 2 ? NONE : 1), Math.min(call / 3, 1));
        }
    }

    private static void newObject() {
        check.sentence("No RAILS, MONTHS, LOGS; no images.");
        ElsewhereStamps x = new ElsewhereStamps();
        for (int sort = 0; sort < 3; sort++) {
            check.same("count " + sort, x.count(sort), 0);
        }
        for (int k = 0; k < 3; k++) {
            check.same("again " + k, x.again(k), false);
        }
        check.same("no tape", x.end(1), NONE);
        check.same("no fault", x.fault(0), 0);
        check.same("no place", x.fault(1), NONE);
        for (int n = -2; n <= 1; n++) {
            noneSuch(x, n);
        }
    }

    /** All that asks for a RAIL, a MONTH, a LOG that is not there. */
    private static void noneSuch(ElsewhereStamps x, int n) {
        check.same("rail", x.rail(n, 0), NONE);
        check.same("deed", x.deed(n, NONE, 0), -2);
        check.same("till", x.till(n, n), NONE);
        check.same("state", x.state(n, n, 0, 0), -2);
        check.same("duty", x.duty(n, 0), NONE);
        check.same("round", x.round(n, 0, NONE), NONE);
        check.same("mean", x.mean(n, 0, 0, 0, false), NONE);
        check.same("ring", x.ring(n, 0), -2);
        check.same("counts", x.counts(n, 0, 0), NONE);
        check.same("read", x.counts(n, NONE, 0), NONE);
        check.same("sight", x.sight(n, NONE, 0), -2);
        check.same("could", x.could(n, n, 0), NONE);
        check.same("drawn", x.drawn(n, 1, 1, 0), -2);
        check.same("lands", x.lands(n, 0), NONE);
        check.same("trains", x.trains(n, 0), NONE);
        check.same("trains, spare", x.trains(n, 2), NONE);
        check.same("latest", x.latest(n, 0, 0, 0), NONE);
        check.same("board", x.board(n, 0, 0, 0), NONE);
        check.same("orders", x.orders(n, 0, NONE), NONE);
        check.same("stuck", x.stuck(n), NONE);
        check.same("after", x.after(n, n, 0), -2);
        for (boolean flag : new boolean[] {false, true}) {
            check.same("soonest", x.soonest(n, 0, 0, 0, flag), -2);
            check.same("meeting", x.meeting(n, 0, 0, flag), NONE);
            check.same("offices", x.offices(n, 1, flag), NONE);
            check.same("cut", x.cut(n, 0, 0, 0, flag), -2);
            check.same("gathered", x.gathered(n, flag), NONE);
            check.same("lacks", x.lacks(n, 0, flag), NONE);
            check.same("ledge", x.ledge(n, 0, flag), NONE);
            check.same("busy", x.busy(n, flag), -2);
            check.same("certain", x.certain(n, n, flag), -2);
        }
    }

    private static void feedBytes() {
        check.sentence("twenty bytes come behind it, of each number the highest first: how many it has.");
        // Each place of the twenty in turn holds the one byte that is no blank.
        for (int place = 0; place < 20; place++) {
            int[] five = {0x20202020, 0x20202020, 0x20202020, 0x20202020, 0x20202020};
            int shift = 24 - place % 4 * 8;
            five[place / 4] = five[place / 4] & ~(255 << shift) | 255 << shift;
            ElsewhereStamps x = new ElsewhereStamps();
            x.feed(0x20202020, 0x20202020, 0x20202020, 0x20202020, 0x20202020);
            check.same("forty", x.feed(five[0], five[1], five[2], five[3], five[4]), 40);
            check.same("a fault", x.text(1, NONE), NONE);
            check.same("fault 1", x.fault(0), 1);
            check.same("at its place", x.fault(1), 20 + place);
        }
        ElsewhereStamps x = new ElsewhereStamps();
        check.same("any numbers", x.feed(LEAST, MOST, -1, 0, 1), 20);
        check.same("any numbers", x.feed(0, 0, 0, 0, 0), 40);
    }

    private static void feedFull() {
        check.sentence("NONE, and nothing comes, if there would be more than 600.");
        ElsewhereStamps x = new ElsewhereStamps();
        for (int n = 20; n <= 600; n += 20) {
            check.same("up to " + n, x.feed(0x20202020, 0x20202020, 0x20202020, 0x20202020, 0x20202020), n);
        }
        check.same("620", x.feed(0, 0, 0, 0, 0), NONE);
        check.same("620 once more", x.feed(-1, -1, -1, -1, -1), NONE);
        check.same("600 still", x.end(600), 600);
        check.same("the blanks are as they were", x.text(1, NONE), 0);
        for (int cut = 580; cut <= 600; cut++) {
            Tape.put(x, " ".repeat(cut));
            check.same("behind " + cut, x.feed(0x20202020, 0x20202020, 0x20202020, 0x20202020, 0x2020203b), cut == 580 ? 600 : NONE);
            check.same("as long as it was, " + cut, x.end(cut + 1), cut == 580 ? 581 : NONE);
            check.same("all blanks, " + cut, x.text(1, 0), 0);
        }
        Tape.put(x, " ".repeat(580));
        x.feed(0x20202020, 0x20202020, 0x20202020, 0x20202020, 0x2020203b);
        x.text(1, 0);
        check.same("the 600th byte counts", x.fault(1), 599);
    }

    private static void end() {
        check.sentence("The tape has its first n bytes alone: n.");
        ElsewhereStamps x = new ElsewhereStamps();
        check.same("none of none", x.end(0), 0);
        Tape.put(x, "seen 1 23;x");
        check.same("all", x.end(11), 11);
        check.same("one less", x.end(10), 10);
        check.same("it is read", x.text(2, NONE), 0);
        check.same("hour", x.sight(0, 0, 1), 23);
        Tape.put(x, "seen 1 23;");
        x.end(8);
        x.feed(0x20203b20, 0x20202020, 0x20202020, 0x20202020, 0x20202020);
        check.same("what comes comes behind the cut", x.text(2, NONE), 1);
        check.same("hour", x.sight(1, 0, 1), 2);
        Tape.put(x, "x".repeat(600));
        check.same("nothing is left", x.end(0), 0);
        check.same("of nothing", x.end(1), NONE);
        check.same("an empty text", x.text(2, 0), 0);
        check.same("no sights", x.sight(0, NONE, 0), 0);
    }

    private static void endRefused() {
        check.sentence("NONE if it has not so many, or n is below 0.");
        ElsewhereStamps x = new ElsewhereStamps();
        for (int length = 0; length <= 600; length += 20) {
            for (int n : new int[] {LEAST, -600, -20, -1, length + 1, length + 20, 601, 1000, MOST}) {
                check.same("end " + n + " of " + length, x.end(n), NONE);
            }
            check.same("as long as before", x.end(length), length);
            x.feed(0, 0, 0, 0, 0);
        }
    }

    private static void textFurther() {
        check.sentence("RAILS, at most 2 (sort 0), MONTHS, at most 2 (1), LOGS, at most 2 (2), from 0 on.");
        ElsewhereStamps x = new ElsewhereStamps();
        for (int sort = 0; sort < 3; sort++) {
            check.same("first", Tape.tell(x, TEXTS[sort], sort, NONE), 0);
            check.same("one", x.count(sort), 1);
            check.same("second", Tape.tell(x, TEXTS[sort], sort, NONE), 1);
            check.same("two", x.count(sort), 2);
            check.same("no third", Tape.tell(x, TEXTS[sort], sort, NONE), -2);
            check.same("two still", x.count(sort), 2);
        }
    }

    private static void textInPlace() {
        check.sentence("a further one (at NONE), or in the place of one: its number.");
        ElsewhereStamps x = new ElsewhereStamps();
        String[] others = {"lands 6;train 5 4 3 2;", "mark 3 7;ride 1 1;", "seen 5 99;seen 4 98;"};
        for (int sort = 0; sort < 3; sort++) {
            Tape.tell(x, TEXTS[sort], sort, NONE);
            check.same("the only one", Tape.tell(x, others[sort], sort, 0), 0);
            check.same("one", x.count(sort), 1);
            Tape.tell(x, TEXTS[sort], sort, NONE);
            check.same("the last", Tape.tell(x, others[sort], sort, 1), 1);
            check.same("the first", Tape.tell(x, TEXTS[sort], sort, 0), 0);
            check.same("two", x.count(sort), 2);
        }
        check.same("nothing is left of what was in its place", x.rail(0, 1), 0);
        check.same("lands of the first", x.rail(0, 0), 4);
        check.same("lands of the second", x.rail(1, 0), 6);
        check.same("deeds of the first", x.deed(0, NONE, 0), 1);
        check.same("deeds of the second", x.deed(1, NONE, 0), 2);
        check.same("sights of the first", x.sight(0, NONE, 0), 1);
        check.same("sights of the second", x.sight(1, NONE, 0), 2);
        for (int sort = 0; sort < 3; sort++) {
            check.same("an empty text in place", Tape.tell(x, "", sort, 1), 1);
        }
        check.same("three lands at first", x.rail(1, 0), 3);
        check.same("no deeds", x.deed(1, NONE, 0), 0);
        check.same("no sights", x.sight(1, NONE, 0), 0);
    }

    private static void textFault() {
        check.sentence("NONE: a FAULT.");
        ElsewhereStamps x = new ElsewhereStamps();
        String[] wrong = {"train 0 1 2 3;lands 7;", "wait 1 1;wait 0 0;", "seen 2 2;seen 6 0;"};
        for (int sort = 0; sort < 3; sort++) {
            check.same("a further one", Tape.tell(x, wrong[sort], sort, NONE), NONE);
            check.same("there is none", x.count(sort), 0);
            Tape.tell(x, TEXTS[sort], sort, NONE);
            check.same("in the place of one", Tape.tell(x, wrong[sort], sort, 0), NONE);
            check.same("a further one, one there", Tape.tell(x, wrong[sort], sort, NONE), NONE);
            check.same("there is one", x.count(sort), 1);
            check.same("the tape is empty", x.end(1), NONE);
            check.same("a right one goes", Tape.tell(x, TEXTS[sort], sort, NONE), 1);
        }
        check.same("lands stay", x.rail(0, 0), 4);
        check.same("no train came", x.rail(0, 1), 0);
        check.same("deeds stay", x.deed(0, NONE, 0), 1);
        check.same("the deed stays", x.deed(0, 0, 1), 0);
        check.same("sights stay", x.sight(0, NONE, 0), 1);
        check.same("the sight stays", x.sight(0, 0, 1), 1);
    }

    private static void textRefused() {
        check.sentence("-2: there is none such, there are as many as may be, or no such sort (no text is read then, FAULT 0).");
        ElsewhereStamps x = new ElsewhereStamps();
        for (int sort = 0; sort < 3; sort++) {
            refused(x, sort, 0);
            refused(x, sort, 1);
            Tape.tell(x, TEXTS[sort], sort, NONE);
            refused(x, sort, 1);
            Tape.tell(x, TEXTS[sort], sort, NONE);
            refused(x, sort, NONE);
            for (int at : NO_NUMBERS) {
                refused(x, sort, at);
            }
        }
        for (int sort : new int[] {LEAST, -3, -2, -1, 3, 4, 256, MOST}) {
            refused(x, sort, NONE);
            refused(x, sort, 0);
            refused(x, sort, 1);
        }
        check.same("what was told stands", x.rail(1, 0), 4);
    }

    private static void refused(ElsewhereStamps x, int sort, int at) {
        String call = "text " + sort + " " + at;
        // A FAULT and its place are forgotten then, though the text on the tape has one.
        Tape.tell(x, "lands x", 0, x.count(0) > 0 ? 0 : NONE);
        check.same("a fault before", x.fault(0), 1);
        int[] before = {x.count(0), x.count(1), x.count(2)};
        Tape.put(x, "x".repeat(600));
        check.same(call, x.text(sort, at), -2);
        check.same(call + " fault", x.fault(0), 0);
        check.same(call + " place", x.fault(1), NONE);
        check.same(call + " takes the tape", x.end(1), NONE);
        for (int one = 0; one < 3; one++) {
            check.same(call + " count " + one, x.count(one), before[one]);
        }
    }

    private static void fault() {
        check.sentence("Of the latest text(), what 0: the FAULT, 0 without, 1: its place, NONE without.");
        ElsewhereStamps x = new ElsewhereStamps();
        check.same("before any text", x.fault(0), 0);
        check.same("no place before any text", x.fault(1), NONE);
        String[] texts = {"", "x", "lands 1;", "clerk 0 0;".repeat(5), "permit 5;", "permit 0;needs 0 0;", "lands 3;"};
        int[][] due = {{0, NONE}, {1, 0}, {2, 6}, {3, 40}, {4, 9}, {5, 19}, {0, NONE}};
        for (int i = 0; i < texts.length; i++) {
            Tape.tell(x, texts[i], 0, x.count(0) == 0 ? NONE : 0);
            // Neither the tape nor a call that is refused changes it.
            x.feed(0, 0, 0, 0, 0);
            x.end(-1);
            x.end(0);
            x.rail(7, 7);
            check.same("fault of '" + texts[i] + "'", x.fault(0), due[i][0]);
            check.same("place of '" + texts[i] + "'", x.fault(1), due[i][1]);
            check.same("asked twice", x.fault(0), due[i][0]);
        }
        // A FAULT at place 0, and one at the end of an empty tape's place.
        Tape.tell(x, ";", 2, NONE);
        check.same("place 0 is a place", x.fault(1), 0);
    }

    private static void faultOtherWhat() {
        check.sentence("NONE for another what.");
        ElsewhereStamps x = new ElsewhereStamps();
        Tape.tell(x, "permit 5;", 0, NONE);
        for (int what : NO_NUMBERS) {
            check.same("fault " + what, x.fault(what), NONE);
        }
        check.same("fault -1", x.fault(-1), NONE);
    }

    /** By what, the answer of the RAIL that Tales.full() tells. */
    private static int fullAnswer(int what) {
        int k = what % 10;
        if (what >= 100 && what < 500) {
            return what % 100 < 12 ? Tales.FULL_TRAINS[what % 100][what / 100 - 1] : NONE;
        }
        int[] howMany = {6, 12, 8, 6, 4};
        switch (Math.floorDiv(what, 10)) {
            case 0: return k < 5 ? howMany[k] : NONE;
            case 1: return k < 4 ? Tales.FULL_CLERKS[k][0] : NONE;
            case 2: return k < 4 ? Tales.FULL_CLERKS[k][1] : NONE;
            case 3: return k < 8 ? Tales.FULL_PLACES[k] : NONE;
            case 4: return k < 8 ? Tales.FULL_NEEDS[k] : NONE;
            case 5: return k < 6 ? Tales.FULL_LAWS[k][0] : NONE;
            case 6: return k < 6 ? Tales.FULL_LAWS[k][1] : NONE;
            default: return NONE;
        }
    }

    private static void railFull() {
        check.sentence("100 + t, 200 + t, 300 + t, 400 + t: from, to, HOUR, how long of a TRAIN.");
        ElsewhereStamps x = Tape.withRail(Tales.full());
        for (int what = -500; what < 2000; what++) {
            check.same("full rail " + what, x.rail(0, what), fullAnswer(what));
        }
        check.same("the least what", x.rail(0, LEAST), NONE);
        check.same("the most what", x.rail(0, MOST), NONE);
    }

    private static void railEmpty() {
        check.sentence("NONE: there is none such (of any), or for another what.");
        ElsewhereStamps x = Tape.withRail(Tales.full());
        // In the place of a full one, so that nothing of it may be left.
        Tape.tell(x, "", 0, 0);
        for (int what = -20; what < 520; what++) {
            int due = what == 0 ? 3 : what >= 1 && what <= 4 ? 0 : NONE;
            check.same("empty rail " + what, x.rail(0, what), due);
        }
    }

    private static void railNoneSuch() {
        check.sentence("`int rail(int rail, int what)`");
        ElsewhereStamps x = Tape.withRail(Tales.full());
        for (int rail : new int[] {LEAST, -2, -1, 1, 2, 3, MOST}) {
            check.same("rail " + rail, x.rail(rail, 0), NONE);
        }
        Tape.tell(x, "", 0, NONE);
        check.same("the second", x.rail(1, 0), 3);
        for (int rail : NO_NUMBERS) {
            check.same("rail " + rail, x.rail(rail, 0), NONE);
        }
    }

    private static void deedAll() {
        check.sentence("How many DEEDS (k NONE, what 0); of DEED k, what 0: 0 ride, 1 wait, 2 mark, 1, 2: its numbers.");
        ElsewhereStamps x = new ElsewhereStamps();
        StringBuilder text = new StringBuilder();
        String[] words = {"ride", "wait", "mark"};
        int[] most = {11, 24, 7};
        for (int k = 0; k < 40; k++) {
            text.append(Tales.line(words[k % 3], k % 4, Math.max(1, most[k % 3] - k / 3)));
        }
        Tape.tell(x, text.toString(), 1, NONE);
        check.same("forty", x.deed(0, NONE, 0), 40);
        for (int k = 0; k < 40; k++) {
            check.same("kind " + k, x.deed(0, k, 0), k % 3);
            check.same("clerk " + k, x.deed(0, k, 1), k % 4);
            check.same("number " + k, x.deed(0, k, 2), Math.max(1, most[k % 3] - k / 3));
        }
        check.same("no forty-first", x.deed(0, 40, 0), -2);
        Tape.tell(x, "", 1, 0);
        check.same("none", x.deed(0, NONE, 0), 0);
        check.same("no first", x.deed(0, 0, 0), -2);
    }

    private static void deedNoneSuch() {
        check.sentence("-2: there is none such (of either), or for another what. (deed)");
        ElsewhereStamps x = new ElsewhereStamps();
        Tape.tell(x, "ride 0 0;ride 1 1;", 1, NONE);
        for (int odd : NO_NUMBERS) {
            check.same("month " + odd, x.deed(odd, 0, 0), -2);
            check.same("month " + odd + " how many", x.deed(odd, NONE, 0), -2);
            check.same("deed " + odd, x.deed(0, odd, 0), -2);
            if (odd != 2) {
                check.same("what " + odd, x.deed(0, 0, odd), -2);
            }
            check.same("how many, what " + odd, x.deed(0, NONE, odd), -2);
        }
        check.same("month -1", x.deed(-1, 0, 0), -2);
        check.same("month 1", x.deed(1, 0, 0), -2);
        check.same("what 3", x.deed(0, 1, 3), -2);
        check.same("what -1", x.deed(0, 1, -1), -2);
        check.same("how many, what 1", x.deed(0, NONE, 1), -2);
        check.same("how many, what -1", x.deed(0, NONE, -1), -2);
    }

    private static void sightAll() {
        check.sentence("How many SIGHTS (k NONE, what 0); of SIGHT k, what 0: the LAND, 1: the HOUR.");
        ElsewhereStamps x = new ElsewhereStamps();
        StringBuilder text = new StringBuilder();
        for (int k = 0; k < 8; k++) {
            text.append(Tales.line("seen", 5 - k % 6, 99 - 14 * k));
        }
        Tape.tell(x, text.toString(), 2, NONE);
        check.same("eight", x.sight(0, NONE, 0), 8);
        for (int k = 0; k < 8; k++) {
            check.same("land " + k, x.sight(0, k, 0), 5 - k % 6);
            check.same("hour " + k, x.sight(0, k, 1), 99 - 14 * k);
            check.same("what 2 of " + k, x.sight(0, k, 2), -2);
        }
        check.same("no ninth", x.sight(0, 8, 0), -2);
        Tape.tell(x, "", 2, 0);
        check.same("none", x.sight(0, NONE, 0), 0);
        check.same("no first", x.sight(0, 0, 0), -2);
    }

    private static void sightNoneSuch() {
        check.sentence("-2: there is none such (of either), or for another what. (sight)");
        ElsewhereStamps x = new ElsewhereStamps();
        Tape.tell(x, "seen 0 0;seen 1 1;", 2, NONE);
        for (int odd : NO_NUMBERS) {
            check.same("log " + odd, x.sight(odd, 0, 0), -2);
            check.same("log " + odd + " how many", x.sight(odd, NONE, 0), -2);
            check.same("sight " + odd, x.sight(0, odd, 0), -2);
            check.same("what " + odd, x.sight(0, 0, odd), -2);
            check.same("how many, what " + odd, x.sight(0, NONE, odd), -2);
        }
        check.same("log -1", x.sight(-1, 0, 0), -2);
        check.same("log 1", x.sight(1, 0, 0), -2);
        check.same("what -1", x.sight(0, 0, -1), -2);
        check.same("how many, what 1", x.sight(0, NONE, 1), -2);
        check.same("how many, what -1", x.sight(0, NONE, -1), -2);
    }

    private static void count() {
        check.sentence("How many there are of a sort. -2 for another one.");
        ElsewhereStamps x = new ElsewhereStamps();
        for (int sort = 0; sort < 3; sort++) {
            for (int n = 0; n <= 2; n++) {
                check.same("count " + sort, x.count(sort), n);
                if (n < 2) {
                    Tape.tell(x, "", sort, NONE);
                }
            }
        }
        for (int sort : new int[] {LEAST, -3, -2, -1, 3, 4, 256, MOST}) {
            check.same("count " + sort, x.count(sort), -2);
        }
    }

    private static void imageNumbers() {
        check.sentence("Image k (0 .. 2) is all that is told .. as it is now: true; false for another k.");
        ElsewhereStamps x = new ElsewhereStamps();
        for (int k : new int[] {LEAST, -2, -1, 3, 4, MOST}) {
            check.same("image " + k, x.image(k), false);
            check.same("again " + k, x.again(k), false);
        }
        for (int k = 0; k < 3; k++) {
            check.same("image " + k, x.image(k), true);
            check.same("image " + k + " anew", x.image(k), true);
        }
        for (int k : new int[] {LEAST, -1, 3, MOST}) {
            check.same("image " + k, x.image(k), false);
            check.same("again " + k, x.again(k), false);
        }
    }

    private static void imageOfAll() {
        check.sentence("(the tape, the FAULT, too)");
        ElsewhereStamps x = Tape.withRail(Tales.full());
        Tape.tell(x, Tales.RAIL, 0, NONE);
        Tape.tell(x, "wait 0 1;".repeat(40), 1, NONE);
        Tape.tell(x, "ride 0 0;", 1, NONE);
        Tape.tell(x, "seen 5 99;".repeat(8), 2, NONE);
        Tape.tell(x, "seen 1 2;", 2, NONE);
        Tape.tell(x, "clerk 0 0;".repeat(5), 0, 0);
        Tape.put(x, " ".repeat(590) + "seen 4 56;");
        x.image(0);
        Tape.tell(x, "", 0, 0);
        Tape.tell(x, "", 0, 1);
        Tape.tell(x, "", 1, 0);
        Tape.tell(x, "", 1, 1);
        Tape.tell(x, "", 2, 0);
        Tape.tell(x, "lands x", 2, 1);
        Tape.put(x, "y".repeat(300));
        check.same("again", x.again(0), true);
        check.same("fault", x.fault(0), 3);
        check.same("place", x.fault(1), 40);
        for (int what = 0; what < 500; what++) {
            check.same("full rail " + what, x.rail(0, what), fullAnswer(what));
        }
        check.same("second rail", x.rail(1, 1), 4);
        check.same("month", x.deed(0, 39, 0), 1);
        check.same("second month", x.deed(1, NONE, 0), 1);
        check.same("log", x.sight(0, 7, 1), 99);
        check.same("second log", x.sight(1, 0, 1), 2);
        check.same("the tape is full", x.feed(0, 0, 0, 0, 0), NONE);
        check.same("the tape is as it was", x.text(2, 1), 1);
        check.same("its last line", x.sight(1, 0, 1), 56);
        check.same("no fault now", x.fault(0), 0);
        // The image of a new object takes all away.
        ElsewhereStamps y = new ElsewhereStamps();
        y.image(2);
        Tape.tell(y, Tales.full(), 0, NONE);
        Tape.tell(y, "x", 1, NONE);
        Tape.put(y, "x");
        check.same("again, of nothing", y.again(2), true);
        check.same("no rail", y.count(0), 0);
        check.same("no fault", y.fault(0), 0);
        check.same("no place", y.fault(1), NONE);
        check.same("no tape", y.end(1), NONE);
        noneSuch(y, 0);
    }

    private static void imagesApart() {
        check.sentence("All that is as image k has it: true");
        ElsewhereStamps x = new ElsewhereStamps();
        for (int k = 0; k < 3; k++) {
            Tape.tell(x, "lands " + (k + 4) + ";", 0, k == 0 ? NONE : 0);
            x.image(k);
        }
        Tape.tell(x, "lands 2;", 0, 0);
        for (int turn = 0; turn < 9; turn++) {
            int k = turn * 2 % 3;
            check.same("again " + k, x.again(k), true);
            check.same("lands of image " + k, x.rail(0, 0), k + 4);
            check.same("a rail in its place", Tape.tell(x, "lands 2;", 0, 0), 0);
        }
        // An image taken anew is the later one, the others stay.
        x.image(1);
        x.again(0);
        check.same("the first stays", x.rail(0, 0), 4);
        x.again(1);
        check.same("the second is another", x.rail(0, 0), 2);
        x.again(2);
        check.same("the third stays", x.rail(0, 0), 6);
        x.again(0);
        x.image(2);
        x.again(2);
        check.same("an image of an image", x.rail(0, 0), 4);
    }

    private static void againNone() {
        check.sentence("false if there is none such.");
        ElsewhereStamps x = Tape.withRail(Tales.full());
        for (int k = 0; k < 3; k++) {
            for (int other = k; other < 3; other++) {
                check.same("again " + other, x.again(other), false);
                check.same("nothing changes", x.rail(0, 1), 12);
            }
            x.image(k);
            check.same("again " + k, x.again(k), true);
        }
        check.same("again 3", x.again(3), false);
    }

    /** What only asks, whether it is answered or refused, changes nothing of what is told. */
    private static void askingTellsNothing() {
        check.sentence("Nothing is promised beyond the answers and state changes described above");
        ElsewhereStamps x = Tape.withRail(Tales.full());
        Tape.tell(x, "wait 0 1;ride 0 0;", 1, NONE);
        Tape.tell(x, "seen 0 1;", 2, NONE);
        Tape.tell(x, "lands 7;", 0, NONE);
        Tape.put(x, "seen 3 45;");
        for (int n : new int[] {LEAST, -2, -1, 0, 1, 2, 99, MOST}) {
            for (int what : new int[] {LEAST, -1, 0, 1, 2, 10, 20, 30, 40, 100, MOST}) {
                askAll(x, n, what);
            }
        }
        check.same("fault", x.fault(0), 2);
        check.same("place", x.fault(1), 6);
        for (int what = 0; what < 500; what++) {
            check.same("full rail " + what, x.rail(0, what), fullAnswer(what));
        }
        check.same("deeds", x.deed(0, NONE, 0), 2);
        check.same("sights", x.sight(0, NONE, 0), 1);
        check.same("no images", x.again(0) || x.again(1) || x.again(2), false);
        check.same("the tape", x.text(2, NONE), 1);
        check.same("its hour", x.sight(1, 0, 1), 45);
    }

    private static void askAll(ElsewhereStamps x, int n, int what) {
        x.end(n < 0 ? n : 11);
        x.fault(n);
        x.rail(n, what);
        x.deed(n, what, what);
        x.till(n, 0);
        x.state(0, n, n, what);
        x.state(0, 0, n, what);
        x.duty(0, n);
        x.round(0, n, what);
        x.mean(0, n, what, n, true);
        x.ring(n, what);
        x.counts(0, n, what);
        x.sight(0, n, what);
        x.could(0, 0, what);
        x.drawn(0, n, 60, what);
        x.lands(0, what);
        x.trains(0, what);
        x.latest(0, 0, n, what);
        x.board(0, n, what, 0);
        x.orders(0, n, what);
        x.stuck(n);
        x.after(0, 0, what);
        x.count(n);
        for (boolean flag : new boolean[] {false, true}) {
            x.soonest(0, 0, what, n, flag);
            x.meeting(0, n, 0, flag);
            x.offices(0, n, flag);
            x.cut(0, n, 0, 5, flag);
            x.gathered(n, flag);
            x.lacks(0, n, flag);
            x.ledge(0, n, flag);
            x.busy(n, flag);
            x.certain(0, n, flag);
        }
    }
}
