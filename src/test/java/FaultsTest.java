import java.util.ArrayList;
import java.util.HashMap;
import java.util.List;
import java.util.Map;
import java.util.Random;
import java.util.regex.Matcher;
import java.util.regex.Pattern;

/** FAULTS with their places: texts by hand, and texts by chance against a second reader made of patterns. */
public final class FaultsTest {
    private static final int NONE = ElsewhereStamps.NONE;
    private static final Check check = new Check("FaultsTest");
    private static final ElsewhereStamps USED = new ElsewhereStamps();
    private static final Pattern TOKEN = Pattern.compile("[\\n ]*(?:([a-z]+)|([0-9]+)|(;)|([^\\n ])|$)", Pattern.DOTALL);
    private static final Map<String, Integer> WORDS = Map.of("lands", 0, "train", 0, "permit", 0, "needs", 0,
        "law", 0, "clerk", 0, "ride", 1, "wait", 1, "mark", 1, "seen", 2);
    /** Least and most of each NUMBER. */
    private static final Map<String, int[]> RANGES = Map.of("lands", new int[] {2, 6},
        "train", new int[] {0, 5, 0, 5, 0, 11, 1, 24}, "permit", new int[] {0, 5}, "needs", new int[] {0, 7, 0, 5},
        "law", new int[] {0, 5, 0, 5}, "clerk", new int[] {0, 5, 0, 5}, "ride", new int[] {0, 3, 0, 11},
        "wait", new int[] {0, 3, 1, 24}, "mark", new int[] {0, 3, 0, 7}, "seen", new int[] {0, 5, 0, 99});
    private static final Map<String, Integer> MOST = Map.of("train", 12, "permit", 8, "law", 6, "clerk", 4,
        "ride", 40, "seen", 8);

    private FaultsTest() {
    }

    public static void main(String[] args) {
        byHand();
        for (int seed = 0; seed < 60000; seed++) {
            Random random = new Random(seed);
            int sort = random.nextInt(10) < 7 ? 0 : 1 + random.nextInt(2);
            String text = someText(random, sort);
            if (text.length() <= 600) {
                int[] due = faultOf(text, sort);
                expect(text, sort, due[0], due[1]);
            }
        }
        check.finish();
    }

    private static void expect(String text, int sort, int fault, int place) {
        ElsewhereStamps x = new ElsewhereStamps();
        String call = "text " + sort + " '" + text.replace("\n", "\\n") + "'";
        check.same(call, Tape.tell(x, text, sort, NONE), fault == 0 ? 0 : NONE);
        check.same(call + " fault", x.fault(0), fault);
        check.same(call + " place", x.fault(1), fault == 0 ? NONE : place);
        check.same(call + " count", x.count(sort), fault == 0 ? 1 : 0);
        expectOnUsed(call, text, sort, fault, place);
    }

    /** What earlier texts have left on the tape of one object that has read them all is not read again. */
    private static void expectOnUsed(String call, String text, int sort, int fault, int place) {
        if (USED.count(sort) == 0) {
            Tape.tell(USED, "", sort, NONE);
        }
        check.same(call + " in place", Tape.tell(USED, text, sort, 0), fault == 0 ? 0 : NONE);
        check.same(call + " in place, fault", USED.fault(0), fault);
        check.same(call + " in place, its place", USED.fault(1), fault == 0 ? NONE : place);
        check.same(call + " in place, count", USED.count(sort), 1);
    }

    private static void byHand() {
        for (int sort = 0; sort < 3; sort++) {
            expect("", sort, 0, NONE);
            expect(" \n  \n", sort, 0, NONE);
            expect(";", sort, 1, 0);
            expect(" 1", sort, 1, 1);
            expect("  \u00e9", sort, 1, 2);
            expect("\t", sort, 1, 0);
            expect("\0", sort, 1, 0);
        }
        expect("lands4;", 0, 0, NONE);
        expect("lands\n4 ;train0 1 2 3;", 0, 0, NONE);
        expect("lands 04;train 00 03 11 24;", 0, 0, NONE);
        expect("lands 4", 0, 1, 7);
        expect("lands 4  ", 0, 1, 9);
        expect("lands", 0, 1, 5);
        expect("lands ;", 0, 1, 6);
        expect("lands 4 5;", 0, 1, 8);
        expect("lands 004;", 0, 1, 6);
        expect("lands 123;", 0, 1, 6);
        expect("landsx 4;", 0, 1, 0);
        expect("land 4;", 0, 1, 0);
        expect("Lands 4;", 0, 1, 0);
        expect("lAnds 4;", 0, 1, 0);
        expect("lands 4;;", 0, 1, 8);
        expect("lands 4#", 0, 1, 7);
        expect("train 0 1 2;", 0, 1, 11);
        expect("train 0 1 2 3 4;", 0, 1, 14);
        expect("ride 0 0;", 0, 1, 0);
        expect("seen 0 0;", 1, 1, 0);
        expect("lands 3;", 1, 1, 0);
        expect("wait 0 1;", 2, 1, 0);
        expect("landslands", 0, 1, 0);
        expect("lands", 0, 1, 5);
        expect("lands 4;lands 44 ; lands  ", 0, 1, 26);
        expect("lands 4", 0, 1, 7);
        expect("lands", 0, 1, 5);
        // FAULT 1 goes before a FAULT 2 that comes sooner.
        expect("lands 9;train 0 0 12 0;lands x", 0, 1, 29);

        expect("lands 1;", 0, 2, 6);
        expect("lands 2;", 0, 0, NONE);
        expect("lands 6;", 0, 0, NONE);
        expect("lands 7;", 0, 2, 6);
        expect("lands 6;train 5 0 0 1;", 0, 0, NONE);
        expect("train 6 0 0 1;", 0, 2, 6);
        expect("train 0 6 0 1;", 0, 2, 8);
        expect("train 0 0 1 1;", 0, 2, 8);
        expect("train 7 7 1 1;", 0, 2, 6);
        expect("train 0 1 12 1;", 0, 2, 10);
        expect("train 0 1 11 24;", 0, 0, NONE);
        expect("train 0 1 0 0;", 0, 2, 12);
        expect("train 0 1 0 25;", 0, 2, 12);
        expect("train 0 1 12 25;", 0, 2, 10);
        expect("permit 6;", 0, 2, 7);
        expect("needs 8 0;", 0, 2, 6);
        expect("needs 0 6;", 0, 2, 8);
        expect("law 6 0;", 0, 2, 4);
        expect("law 0 6;", 0, 2, 6);
        expect("law 1 1;", 0, 2, 6);
        expect("clerk 6 0;", 0, 2, 6);
        expect("clerk 0 6;", 0, 2, 8);
        expect("clerk 1 1;", 0, 0, NONE);
        expect("ride 4 0;", 1, 2, 5);
        expect("ride 3 11;", 1, 0, NONE);
        expect("ride 0 12;", 1, 2, 7);
        expect("wait 4 1;", 1, 2, 5);
        expect("wait 0 0;", 1, 2, 7);
        expect("wait 0 24;", 1, 0, NONE);
        expect("wait 0 25;", 1, 2, 7);
        expect("mark 4 0;", 1, 2, 5);
        expect("mark 0 7;", 1, 0, NONE);
        expect("mark 0 8;", 1, 2, 7);
        expect("seen 5 99;", 2, 0, NONE);
        expect("seen 6 0;", 2, 2, 5);

        manyLines("train 0 1 0 1;", 0, 12);
        manyLines("permit 0;", 0, 8);
        manyLines("law 0 1;", 0, 6);
        manyLines("clerk 0 0;", 0, 4);
        manyLines("wait 0 1;", 1, 40);
        manyLines("seen 0 0;", 2, 8);
        // What a line with a bad NUMBER tells is told all the same, but its FAULT comes sooner.
        expect("clerk 9 0;" + "clerk 0 0;".repeat(4), 0, 2, 6);
        expect("clerk 0 0;".repeat(4) + "clerk 9 0;", 0, 3, 40);
        expect("clerk 0 0;".repeat(4) + "lands 9;clerk 0 0;", 0, 2, 46);
        expect("ride 0 0;".repeat(20) + "mark 0 0;".repeat(21), 1, 3, 360);
        expect("needs 0 1;".repeat(20) + "lands 3;".repeat(20) + "permit 0;", 0, 0, NONE);

        expect("permit 3;", 0, 4, 9);
        expect("permit 3; \n", 0, 4, 11);
        expect("permit 3;lands 4;", 0, 0, NONE);
        expect("lands 4;permit 3;lands 3;", 0, 4, 25);
        expect("train 0 3 0 1;", 0, 4, 14);
        expect("train 3 0 0 1;", 0, 4, 14);
        expect("law 3 0;", 0, 4, 8);
        expect("law 0 3;", 0, 4, 8);
        expect("clerk 3 0;", 0, 4, 10);
        expect("clerk 0 3;", 0, 4, 10);
        expect("needs 0 1;", 0, 4, 10);
        expect("needs 0 1;permit 0;", 0, 0, NONE);
        expect("needs 1 1;permit 0;", 0, 4, 19);
        expect("permit 0;needs 0 3;", 0, 4, 19);
        expect("permit 0;needs 0 0;", 0, 5, 19);
        expect("needs 0 2;needs 0 0;permit 0;", 0, 5, 29);
        expect("permit 0;needs 0 0;clerk 3 0;", 0, 4, 29);
        expect("permit 0;needs 0 0;lands 9;", 0, 2, 25);
    }

    private static void manyLines(String line, int sort, int most) {
        expect(line.repeat(most), sort, 0, NONE);
        expect(line.repeat(most + 1), sort, 3, line.length() * most);
    }

    /** Lines that are mostly right, and some signs put in, taken out or changed at times. */
    private static String someText(Random random, int sort) {
        List<String> words = new ArrayList<>();
        for (String word : new String[] {"lands", "train", "permit", "needs", "law", "clerk", "ride", "wait", "mark", "seen"}) {
            if (WORDS.get(word) == sort) {
                words.add(word);
            }
        }
        StringBuilder text = new StringBuilder();
        int lines = random.nextInt(random.nextInt(4) == 0 ? 50 : 9);
        int strange = random.nextInt(3) == 0 ? 5 : 60;
        for (int i = 0; i < lines; i++) {
            String word = words.get(random.nextInt(words.size()));
            text.append(word);
            int[] range = RANGES.get(word);
            for (int n = 0; n < range.length; n += 2) {
                int number = range[n] + random.nextInt(range[n + 1] - range[n] + 1);
                boolean land = range[n + 1] == 5;
                number = land ? random.nextInt(3) : number;
                number = random.nextInt(strange) == 0 ? random.nextInt(random.nextInt(9) == 0 ? 130 : 30) : number;
                text.append(n > 0 || random.nextBoolean() ? " " : "").append(number);
            }
            text.append(random.nextInt(9) == 0 ? "\n;" : ";");
        }
        int changes = Math.max(0, random.nextInt(6) - 3);
        for (int i = 0; i < changes && text.length() > 0; i++) {
            int at = random.nextInt(text.length());
            String signs = "az 0195;;\n\t\u00ff{`/:lAZ";
            char sign = signs.charAt(random.nextInt(signs.length()));
            switch (random.nextInt(3)) {
                case 0: text.setCharAt(at, sign); break;
                case 1: text.insert(at, sign); break;
                default: text.deleteCharAt(at); break;
            }
        }
        return text.toString();
    }

    /** The FAULT and its place. */
    private static int[] faultOf(String text, int sort) {
        List<String> tokens = new ArrayList<>();
        List<Integer> places = new ArrayList<>();
        Matcher matcher = TOKEN.matcher(text);
        for (int at = 0; at < text.length() && matcher.find(at); at = matcher.end()) {
            for (int group = 1; group <= 4; group++) {
                if (matcher.group(group) != null) {
                    tokens.add(matcher.group(group));
                    places.add(matcher.start(group));
                }
            }
        }
        int[] best = {0, NONE};
        Map<String, Integer> told = new HashMap<>();
        int lands = 3;
        int at = 0;
        boolean missing = false;
        List<int[]> numbersOfLands = new ArrayList<>();
        List<Integer> permits = new ArrayList<>();
        List<int[]> needs = new ArrayList<>();
        while (at < tokens.size()) {
            String word = tokens.get(at);
            if (!WORDS.containsKey(word) || WORDS.get(word) != sort) {
                return new int[] {1, places.get(at)};
            }
            int[] range = RANGES.get(word);
            int[] n = new int[range.length / 2];
            for (int i = 0; i <= n.length; i++) {
                int next = at + 1 + i;
                if (next >= tokens.size()) {
                    return new int[] {1, text.length()};
                }
                if (!tokens.get(next).matches(i < n.length ? "[0-9]{1,2}" : ";")) {
                    return new int[] {1, places.get(next)};
                }
                if (i < n.length) {
                    n[i] = Integer.parseInt(tokens.get(next));
                }
            }
            String counted = sort == 1 ? "ride" : word;
            if (MOST.containsKey(counted)) {
                told.merge(counted, 1, Integer::sum);
                if (told.get(counted) == MOST.get(counted) + 1) {
                    best = sooner(best, 3, places.get(at));
                }
            }
            for (int i = 0; i < n.length; i++) {
                boolean twice = i == 1 && (word.equals("train") || word.equals("law")) && n[0] == n[1];
                if (n[i] < range[2 * i] || n[i] > range[2 * i + 1] || twice) {
                    best = sooner(best, 2, places.get(at + 1 + i));
                }
            }
            switch (word) {
                case "lands": lands = n[0]; break;
                case "train": case "law": case "clerk": numbersOfLands.add(new int[] {n[0], n[1]}); break;
                case "permit": permits.add(n[0]); numbersOfLands.add(n); break;
                case "needs": needs.add(n); numbersOfLands.add(new int[] {n[1]}); break;
                default: break;
            }
            at += n.length + 2;
        }
        if (best[0] != 0 || sort != 0) {
            return best;
        }
        for (int[] some : numbersOfLands) {
            for (int land : some) {
                missing = missing || land >= lands;
            }
        }
        for (int[] need : needs) {
            missing = missing || need[0] >= permits.size();
        }
        if (missing) {
            return new int[] {4, text.length()};
        }
        for (int[] need : needs) {
            if (permits.get(need[0]) == need[1]) {
                return new int[] {5, text.length()};
            }
        }
        return best;
    }

    private static int[] sooner(int[] best, int fault, int place) {
        boolean isSooner = best[0] == 0 || place < best[1] || place == best[1] && fault < best[0];
        return isSooner ? new int[] {fault, place} : best;
    }
}
