/** The boundary cases of terms 1: how much there may be, what a text is, FAULTS and their places, sentence by sentence. */
public final class EdgesTextTest {
    private static final int NONE = ElsewhereStamps.NONE;
    private static final int RAIL = Tape.RAIL;
    private static final int MONTH = Tape.MONTH;
    private static final int LOG = Tape.LOG;
    private static final Check check = new Check("EdgesTextTest");
    /** By line: its sort, how many NUMBERS, of each the least and the most. */
    private static final String[] WORDS = {"lands", "train", "permit", "needs", "law", "clerk", "ride", "wait", "mark", "seen"};
    private static final int[] SORTS = {RAIL, RAIL, RAIL, RAIL, RAIL, RAIL, MONTH, MONTH, MONTH, LOG};
    private static final int[][] RANGES = {{2, 6}, {0, 5, 0, 5, 0, 11, 1, 24}, {0, 5}, {0, 7, 0, 5}, {0, 5, 0, 5}, {0, 5, 0, 5},
        {0, 3, 0, 11}, {0, 3, 1, 24}, {0, 3, 0, 7}, {0, 5, 0, 99}};
    /** Of each line one that is right on a RAIL of six LANDS. */
    private static final int[][] RIGHT = {{6}, {2, 3, 4, 5}, {1}, {0, 2}, {3, 4}, {1, 1}, {0, 0}, {0, 5}, {0, 0}, {2, 2}};
    /** What may be told so many times, and no more. */
    private static final String[] COUNTED = {"train 0 1 0 1;", "permit 0;", "law 0 1;", "clerk 0 0;", "ride 0 0;", "wait 0 1;", "mark 0 0;",
        "seen 0 0;"};
    private static final String[] COUNTED_WRONG = {"train 0 0 0 1;", "permit 6;", "law 1 1;", "clerk 0 6;", "ride 4 0;", "wait 0 0;",
        "mark 0 8;", "seen 6 0;"};
    private static final int[] COUNTED_SORTS = {RAIL, RAIL, RAIL, RAIL, MONTH, MONTH, MONTH, LOG};
    private static final int[] COUNTED_MOST = {12, 8, 6, 4, 40, 40, 40, 8};

    private EdgesTextTest() {
    }

    public static void main(String[] args) {
        lands();
        leastAndMost();
        anotherLand();
        furtherOnes();
        asManyAsMayBe();
        theTape();
        blanks();
        words();
        numbers();
        semicolons();
        linesCutOrLonger();
        textsOfOtherSorts();
        theFirstFaultOne();
        theEnd();
        faultsByPlace();
        linesWithWrongNumbersTell();
        landsAndPermitsThatAreNotThere();
        needsItsOwnLand();
        faultsOfTheEndComeLast();
        check.finish();
    }

    private static void fine(String text, int sort) {
        faulty(text, sort, 0, NONE);
    }

    /** On a new object, and in the place of one that stands and stays if there is a FAULT. */
    private static void faulty(String text, int sort, int fault, int place) {
        ElsewhereStamps x = new ElsewhereStamps();
        String call = "text " + sort + " '" + text.replace("\n", "\\n").replaceAll(" {9,}", " .. ") + "'";
        check.same(call, Tape.tell(x, text, sort, NONE), fault == 0 ? 0 : NONE);
        check.same(call + " fault", x.fault(0), fault);
        check.same(call + " place", x.fault(1), place);
        check.same(call + " count", x.count(sort), fault == 0 ? 1 : 0);
        check.same(call + " takes the tape", x.end(1), NONE);
    }

    private static int railAnswer(String text, int what) {
        return Tape.withRail(text).rail(0, what);
    }

    private static void lands() {
        check.sentence("A RAIL has LANDS, 2 .. 6 (3 at first), from 0 on");
        check.same("at first", railAnswer("", 0), 3);
        check.same("at first, with others told", railAnswer("clerk 0 0;", 0), 3);
        for (int lands = 2; lands <= 6; lands++) {
            String text = "lands " + lands + ";";
            check.same(text, railAnswer(text, 0), lands);
            fine(text + "clerk 0 " + (lands - 1) + ";", RAIL);
            faulty(text + "clerk 0 " + lands + ";", RAIL, lands == 6 ? 2 : 4, lands == 6 ? 16 : 18);
        }
        faulty("lands 0;", RAIL, 2, 6);
        faulty("lands 1;", RAIL, 2, 6);
        faulty("lands 7;", RAIL, 2, 6);
        faulty("lands 99;", RAIL, 2, 6);
    }

    /** Where the i-th NUMBER of a line stands that is told by Tales.line(). */
    private static int placeOf(String word, int[] numbers, int i) {
        int[] before = java.util.Arrays.copyOf(numbers, i);
        return Tales.line(word, before).length();
    }

    private static void leastAndMost() {
        check.sentence("2 a NUMBER that can't be (as above");
        for (int line = 0; line < WORDS.length; line++) {
            // Six LANDS, eight PERMITS, but where the line is one of them.
            String before = SORTS[line] != RAIL ? "" : line == 2 ? "lands 6;" : "lands 6;" + "permit 0;".repeat(8);
            for (int i = 0; i < RANGES[line].length / 2; i++) {
                for (int number = 0; number <= 99; number++) {
                    int[] numbers = RIGHT[line].clone();
                    numbers[i] = number;
                    boolean twice = (line == 1 || line == 4) && numbers[0] == numbers[1];
                    boolean inside = number >= RANGES[line][2 * i] && number <= RANGES[line][2 * i + 1];
                    boolean own = line == 3 && numbers[1] == 0;
                    boolean fewLands = line == 0 && number < 6;
                    if (!twice && !own && !(inside && fewLands)) {
                        int place = before.length() + placeOf(WORDS[line], numbers, i);
                        String text = before + Tales.line(WORDS[line], numbers);
                        faulty(text, SORTS[line], inside ? 0 : 2, inside ? NONE : place);
                    }
                }
            }
        }
    }

    private static void anotherLand() {
        check.sentence("of train, law the second LAND, if it is the first");
        for (int land = 0; land < 6; land++) {
            faulty("train " + land + " " + land + " 0 1;", RAIL, 2, 8);
            faulty("train 0" + land + "  " + land + " 0 1;", RAIL, 2, 10);
            faulty("law " + land + " " + land + ";", RAIL, 2, 6);
            fine("lands 6;clerk " + land + " " + land + ";", RAIL);
        }
        faulty("train 6 6 0 1;", RAIL, 2, 6);
        faulty("law 9 9;", RAIL, 2, 4);
        faulty("train 0 0 12 25;", RAIL, 2, 8);
    }

    private static void furtherOnes() {
        check.sentence("All are further ones (what a PERMIT NEEDS it NEEDS once).");
        ElsewhereStamps x = Tape.withRail("permit 0;permit 0;needs 1 2;needs 1 2;needs 1 2;needs 1 1;train 0 1 2 3;train 0 1 2 3;"
            + "law 0 1;law 0 1;clerk 1 2;clerk 1 2;");
        int[][] due = {{1, 2}, {2, 2}, {3, 2}, {4, 2}, {40, 0}, {41, 6}, {10, 1}, {11, 1}, {20, 2}, {21, 2}, {51, 0}, {61, 1}};
        for (int[] row : due) {
            check.same("rail " + row[0], x.rail(0, row[0]), row[1]);
        }
        check.same("a need told thrice is one", x.orders(0, 1, NONE), 2);
        fine("permit 1;" + "needs 0 2;".repeat(59), RAIL);
        fine("lands 3;".repeat(75), RAIL);
        Tape.tell(x, "seen 1 2;seen 1 2;", LOG, NONE);
        check.same("a sight told twice is two", x.sight(0, NONE, 0), 2);
        Tape.tell(x, "wait 1 2;wait 1 2;", MONTH, NONE);
        check.same("a deed told twice is two", x.deed(0, NONE, 0), 2);
    }

    private static void asManyAsMayBe() {
        check.sentence("3 a 13th TRAIN, a 9th PERMIT, a 7th LAW, a 5th CLERK, a 41st DEED, a 9th SIGHT, at its first token.");
        for (int i = 0; i < COUNTED.length; i++) {
            int sort = COUNTED_SORTS[i];
            String all = COUNTED[i].repeat(COUNTED_MOST[i]);
            fine(all, sort);
            faulty(all + COUNTED[i], sort, 3, all.length());
            faulty(all + " \n " + COUNTED[i], sort, 3, all.length() + 3);
            if (all.length() < 500) {
                faulty(all + COUNTED[i].repeat(2), sort, 3, all.length());
            }
        }
        // Of three kinds together there are no more than forty.
        String deeds = "ride 0 0;".repeat(13) + "mark 0 0;".repeat(13) + "wait 0 1;".repeat(13);
        fine(deeds + "mark 0 0;", MONTH);
        faulty(deeds + "mark 0 0;ride 0 0;", MONTH, 3, 360);
        // One sort is full, the others are not.
        String trains = "train 0 1 0 1;".repeat(12);
        fine(trains + "permit 0;".repeat(8) + "law 0 1;".repeat(6) + "clerk 0 0;".repeat(4), RAIL);
        faulty(trains + "clerk 0 0;".repeat(5), RAIL, 3, 168 + 40);
    }

    private static void theTape() {
        check.sentence("THE TAPE has at most 600 bytes.");
        fine(" ".repeat(600), RAIL);
        fine("\n".repeat(600), MONTH);
        fine(" ".repeat(591) + "seen 5 9;", LOG);
        fine(" ".repeat(592) + "lands 4;", RAIL);
        faulty(" ".repeat(593) + "lands 4", RAIL, 1, 600);
        faulty(" ".repeat(599) + "x", RAIL, 1, 599);
        faulty("x" + " ".repeat(599), RAIL, 1, 0);
        faulty(" ".repeat(591) + "permit 5;", RAIL, 4, 600);
        faulty(" ".repeat(591) + "wait 0 0;", MONTH, 2, 598);
        faulty("z".repeat(600), RAIL, 1, 0);
        faulty("lands" + "4".repeat(595), RAIL, 1, 5);
        check.same("the last line of a full tape", railAnswer(" ".repeat(592) + "lands 4;", 0), 4);
    }

    private static void blanks() {
        check.sentence("TOKENS, as long as they go, blanks (10, 32) between");
        for (char sign = 0; sign < 256; sign++) {
            boolean blank = sign == 10 || sign == 32;
            boolean word = sign >= 'a' && sign <= 'z';
            boolean digit = sign >= '0' && sign <= '9';
            faulty("" + sign, MONTH, blank ? 0 : 1, blank ? NONE : 0);
            faulty("lands 4;" + sign, RAIL, blank ? 0 : 1, blank ? NONE : 8);
            faulty(sign + "lands 4;", RAIL, blank ? 0 : 1, blank ? NONE : 0);
            // Behind a digit a further one makes a NUMBER, a semicolon ends the line too soon.
            int fault = blank ? 0 : digit ? 2 : 1;
            faulty("lands 4" + sign + ";", RAIL, fault, blank ? NONE : digit ? 6 : sign == ';' ? 8 : 7);
            // Behind a word a letter makes another word, a digit a longer row of digits or a NUMBER.
            int place = word ? 0 : digit ? 7 : 5;
            faulty("lands" + sign + " 4;", RAIL, blank ? 0 : 1, blank ? NONE : place);
        }
        fine("lands4;train0 1 2 3;clerk2\n1;", RAIL);
        fine(" \n lands \n 4 \n ; \n ", RAIL);
        faulty("train01 2 3;", RAIL, 1, 11);
        faulty("la nds 4;", RAIL, 1, 0);
        faulty("lands4train0 1 2 3;", RAIL, 1, 6);
    }

    private static void words() {
        check.sentence("words, rows of letters a .. z");
        for (int line = 0; line < WORDS.length; line++) {
            String numbers = Tales.line("", RIGHT[line]);
            String word = WORDS[line];
            faulty(word.substring(1) + numbers, SORTS[line], 1, 0);
            faulty("z" + word.substring(1) + numbers, SORTS[line], 1, 0);
            faulty(word.substring(0, word.length() - 1) + "z" + numbers, SORTS[line], 1, 0);
            faulty(word.substring(0, word.length() - 1) + numbers, SORTS[line], 1, 0);
            faulty(word + "s" + numbers, SORTS[line], 1, 0);
            faulty(word + word + numbers, SORTS[line], 1, 0);
            faulty(word.toUpperCase() + numbers, SORTS[line], 1, 0);
            faulty(word.substring(0, 2) + "X" + word.substring(3) + numbers, SORTS[line], 1, 0);
            faulty(word + " " + word + numbers, SORTS[line], 1, word.length() + 1);
        }
        faulty("lands 4;zz", RAIL, 1, 8);
        faulty("lands 4; a", RAIL, 1, 9);
    }

    private static void numbers() {
        check.sentence("(a longer row of digits is no token)");
        check.same("one digit", railAnswer("lands 5;", 0), 5);
        check.same("two digits", railAnswer("lands 05;", 0), 5);
        faulty("lands 005;", RAIL, 1, 6);
        faulty("lands 000000000000000000005;", RAIL, 1, 6);
        faulty("lands 4294967300;", RAIL, 1, 6);
        faulty("seen 0 99;seen 0 100;", LOG, 1, 17);
        faulty("train 0 1 111 1;", RAIL, 1, 10);
        faulty("lands 7;lands 100;", RAIL, 1, 14);
        faulty("100", RAIL, 1, 0);
        faulty("lands -4;", RAIL, 1, 6);
        faulty("lands +4;", RAIL, 1, 6);
        faulty("lands 4.;", RAIL, 1, 7);
    }

    private static void semicolons() {
        check.sentence("; one byte");
        faulty(";", RAIL, 1, 0);
        faulty("lands 4;;", RAIL, 1, 8);
        faulty("lands 4; ;lands 4;", RAIL, 1, 9);
        faulty(";lands 4;", RAIL, 1, 0);
        faulty("lands;4;", RAIL, 1, 5);
        fine("lands 4;lands 4;", RAIL);
    }

    /** A line with too few NUMBERS, with too many, and one that ends behind each of its tokens. */
    private static void linesCutOrLonger() {
        check.sentence("1 the first byte or token with which no text goes on");
        for (int line = 0; line < WORDS.length; line++) {
            int sort = SORTS[line];
            int many = RIGHT[line].length;
            for (int i = 0; i <= many; i++) {
                String part = Tales.line(WORDS[line], java.util.Arrays.copyOf(RIGHT[line], i));
                String open = part.substring(0, part.length() - 1);
                faulty(open, sort, 1, open.length());
                faulty(open + " \n", sort, 1, open.length() + 2);
                faulty(open + " x;", sort, 1, open.length() + 1);
                faulty(open + "#", sort, 1, open.length());
                if (i < many) {
                    faulty(part, sort, 1, open.length());
                } else {
                    faulty(open + " 1;", sort, 1, open.length() + 1);
                }
            }
        }
    }

    private static void textsOfOtherSorts() {
        check.sentence("A MONTH's text: {('ride' | 'wait' | 'mark') NUMBER NUMBER ';'}");
        for (int sort = 0; sort < 3; sort++) {
            fine("", sort);
            fine(" \n", sort);
            for (int line = 0; line < WORDS.length; line++) {
                if (SORTS[line] != sort) {
                    faulty(Tales.line(WORDS[line], RIGHT[line]), sort, 1, 0);
                }
            }
        }
    }

    private static void theFirstFaultOne() {
        check.sentence("If there is none, the first by place, of one place the least");
        // FAULT 1 counts wherever it is, the others only without it.
        faulty("lands 9;lands 9", RAIL, 1, 15);
        faulty("clerk 0 0;".repeat(5) + "x", RAIL, 1, 50);
        faulty("permit 5;needs 7 5;.", RAIL, 1, 19);
        faulty("lands 1;$;lands 1;%", RAIL, 1, 8);
        faulty("wait 0 0;wait", MONTH, 1, 13);
        faulty("seen 9 0;seen 0 0 0;", LOG, 1, 18);
    }

    private static void theEnd() {
        check.sentence("with places (a token's first byte; the end's)");
        faulty("lands", RAIL, 1, 5);
        faulty("lands   ", RAIL, 1, 8);
        faulty("lands 4\n\n", RAIL, 1, 9);
        faulty("permit 5;", RAIL, 4, 9);
        faulty("permit 5;   ", RAIL, 4, 12);
        faulty("  permit 0;needs 0 0;\n", RAIL, 5, 22);
        faulty("   lands 44  ;", RAIL, 2, 9);
        faulty("   landz 44  ;", RAIL, 1, 3);
    }

    private static void faultsByPlace() {
        check.sentence("FAULTS of all, with places");
        faulty("lands 3;lands 7;lands 1;", RAIL, 2, 14);
        faulty("train 0 1 12 25;", RAIL, 2, 10);
        faulty("train 9 9 99 99;", RAIL, 2, 6);
        faulty("clerk 0 0;".repeat(5) + "lands 7;", RAIL, 3, 40);
        faulty("lands 7;" + "clerk 0 0;".repeat(5), RAIL, 2, 6);
        faulty("clerk 0 0;".repeat(4) + "law 0 0;clerk 0 0;", RAIL, 2, 46);
        faulty("law 0 1;".repeat(7) + "clerk 0 0;".repeat(5), RAIL, 3, 48);
        faulty("clerk 0 0;".repeat(5) + "law 0 1;".repeat(7), RAIL, 3, 40);
    }

    private static void linesWithWrongNumbersTell() {
        check.sentence("a line with such a NUMBER tells its TRAIN, PERMIT, LAW, CLERK, DEED, SIGHT all the same");
        for (int i = 0; i < COUNTED.length; i++) {
            int sort = COUNTED_SORTS[i];
            int most = COUNTED_MOST[i];
            String all = COUNTED[i].repeat(most);
            // One too many is one too many, whatever its NUMBERS are, and its first token is before them.
            faulty(all + COUNTED_WRONG[i], sort, 3, all.length());
            String one = COUNTED[i].repeat(most - 1) + COUNTED_WRONG[i];
            ElsewhereStamps x = new ElsewhereStamps();
            check.same("the last that may be, wrong", Tape.tell(x, one + COUNTED[i], sort, NONE), NONE);
            check.same("its fault", x.fault(0), 2);
            check.same("its place is inside the line", x.fault(1) > one.length() - COUNTED[i].length() && x.fault(1) < one.length(), true);
        }
    }

    private static void landsAndPermitsThatAreNotThere() {
        check.sentence("4 a LAND, a PERMIT that was told of and is not there");
        String[] lines = {"train 3 0 0 1;", "train 0 3 0 1;", "permit 3;", "law 3 0;", "law 0 3;", "clerk 3 0;", "clerk 0 3;"};
        for (String line : lines) {
            faulty(line, RAIL, 4, line.length());
            fine("lands 4;" + line, RAIL);
            // It may come to be there later in the text, and may be gone by its end.
            fine(line + "lands 4;", RAIL);
            faulty("lands 4;" + line + "lands 3;", RAIL, 4, line.length() + 16);
            faulty(line.replace('3', '2') + "lands 2;", RAIL, 4, line.length() + 8);
            fine(line.replace('3', '2'), RAIL);
        }
        faulty("needs 0 1;", RAIL, 4, 10);
        faulty("permit 0;needs 1 1;", RAIL, 4, 19);
        faulty("permit 0;needs 0 3;", RAIL, 4, 19);
        fine("permit 0;needs 0 3;lands 4;", RAIL);
        fine("needs 0 1;permit 0;", RAIL);
        fine("needs 7 1;" + "permit 0;".repeat(8), RAIL);
        faulty("needs 7 1;" + "permit 0;".repeat(7), RAIL, 4, 73);
    }

    private static void needsItsOwnLand() {
        check.sentence("5 a PERMIT that NEEDS the MARK of the LAND in which it is.");
        for (int land = 0; land < 6; land++) {
            String text = "lands 6;permit " + land + ";";
            faulty(text + "needs 0 " + land + ";", RAIL, 5, 27);
            fine(text + "needs 0 " + (land + 1) % 6 + ";", RAIL);
        }
        faulty("needs 7 2;" + "permit 0;".repeat(7) + "permit 2;", RAIL, 5, 82);
        fine("needs 7 2;" + "permit 2;".repeat(7) + "permit 0;", RAIL);
        // A CLERK may be in his own LAND.
        fine("clerk 0 0;", RAIL);
    }

    private static void faultsOfTheEndComeLast() {
        check.sentence("If there is none of these, at the end's place, of a RAIL");
        faulty("permit 0;needs 0 0;clerk 3 0;", RAIL, 4, 29);
        faulty("clerk 3 0;permit 0;needs 0 0;", RAIL, 4, 29);
        faulty("permit 0;needs 0 0;needs 1 1;", RAIL, 4, 29);
        faulty("permit 5;needs 0 5;", RAIL, 4, 19);
        faulty("clerk 3 0;lands 1;", RAIL, 2, 16);
        faulty("clerk 3 0;clerk 0 0;clerk 0 0;clerk 0 0;clerk 0 0;", RAIL, 3, 40);
        // A MONTH, a LOG may tell of what no RAIL has.
        fine("ride 3 11;wait 3 24;mark 3 7;", MONTH);
        fine("seen 5 99;", LOG);
    }
}
