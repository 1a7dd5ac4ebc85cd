import java.util.ArrayList;
import java.util.List;
import java.util.Random;
import java.util.Set;
import java.util.TreeSet;

/**
 * Many rails, months and logs by chance: each answer against the one of Plain and PlainMonth.
 * Arguments: how many rails, and the seed of the first, if others than the usual ones are wanted.
 */
public final class PlainTest {
    private static final int NONE = ElsewhereStamps.NONE;
    private static final Check check = new Check("PlainTest");
    private static final int USUAL = 150;

    private PlainTest() {
    }

    public static void main(String[] args) {
        // One object for all: what an earlier rail has left behind must not be seen.
        ElsewhereStamps x = Tape.withRail("");
        Tape.tell(x, "", Tape.MONTH, NONE);
        Tape.tell(x, "", Tape.LOG, NONE);
        int rails = args.length > 0 ? Integer.parseInt(args[0]) : USUAL;
        int first = args.length > 1 ? Integer.parseInt(args[1]) : 0;
        for (int seed = first; seed < first + rails; seed++) {
            Random random = new Random(seed);
            Plain plain = someRail(random);
            String name = "rail of seed " + seed + ": ";
            check.same(name + "text", Tape.tell(x, railText(plain, random), Tape.RAIL, 0), 0);
            sameRail(name, x, plain);
            sameWays(name, x, plain, random);
            sameTrains(name, x, plain, random);
            sameClerks(name, x, plain);
            samePermits(name, x, plain);
            sameRings(name, x, plain);
            sameMonth(name, x, plain, random);
            sameDrawn(name, x, plain, random);
            sameLog(name, x, plain, random);
        }
        check.finish();
    }

    private static Plain someRail(Random random) {
        Plain plain = new Plain();
        plain.lands = 2 + random.nextInt(5);
        int trains = random.nextInt(13);
        for (int t = 0; t < trains; t++) {
            int from = random.nextInt(plain.lands);
            int to = (from + 1 + random.nextInt(plain.lands - 1)) % plain.lands;
            int takes = 1 + random.nextInt(random.nextBoolean() ? 5 : 24);
            plain.trains.add(new int[] {from, to, random.nextInt(12), takes});
        }
        int permits = random.nextInt(9);
        for (int p = 0; p < permits; p++) {
            plain.places.add(random.nextInt(plain.lands));
            plain.needs.add(new TreeSet<>());
            int needs = random.nextInt(plain.lands);
            for (int n = 0; n < needs; n++) {
                int land = random.nextInt(plain.lands);
                if (land != plain.places.get(p)) {
                    plain.needs.get(p).add(land);
                }
            }
        }
        int laws = random.nextInt(7);
        boolean orderly = random.nextBoolean();
        for (int l = 0; l < laws; l++) {
            int whose = random.nextInt(plain.lands);
            int behind = (whose + 1 + random.nextInt(plain.lands - 1)) % plain.lands;
            boolean turn = orderly && whose < behind;
            plain.laws.add(new int[] {turn ? behind : whose, turn ? whose : behind});
        }
        int clerks = random.nextInt(5);
        for (int c = 0; c < clerks; c++) {
            plain.clerks.add(new int[] {random.nextInt(plain.lands), random.nextInt(plain.lands)});
        }
        return plain;
    }

    /** Lines of a sort stay in order; the sorts come one behind the other, needs before permits at times. */
    private static String railText(Plain plain, Random random) {
        StringBuilder permits = new StringBuilder();
        StringBuilder needs = new StringBuilder();
        for (int p = 0; p < plain.places.size(); p++) {
            permits.append("permit").append(plain.places.get(p)).append(";");
            for (int l : plain.needs.get(p)) {
                needs.append("needs ").append(p).append(' ').append(l).append(";");
            }
        }
        StringBuilder rest = new StringBuilder();
        for (int[] t : plain.trains) {
            rest.append("train").append(t[0]).append(' ').append(t[1]).append(' ').append(t[2]).append(' ')
                .append(t[3]).append(';');
        }
        for (int[] l : plain.laws) {
            rest.append("law").append(l[0]).append('\n').append(l[1]).append(" ;");
        }
        for (int[] c : plain.clerks) {
            rest.append("clerk ").append(c[0]).append(' ').append(c[1]).append(';');
        }
        String lands = plain.lands == 3 && random.nextBoolean() ? "" : "lands " + plain.lands + ";";
        String text = random.nextBoolean() ? needs.toString() + permits + rest + lands : lands + permits + needs + rest;
        if (text.length() > 600) {
            while (text.contains("needs ")) {
                text = text.replace("needs ", "needs");
            }
        }
        return text;
    }

    private static void sameRail(String name, ElsewhereStamps x, Plain plain) {
        check.same(name + "lands", x.rail(0, 0), plain.lands);
        check.same(name + "trains", x.rail(0, 1), plain.trains.size());
        check.same(name + "permits", x.rail(0, 2), plain.places.size());
        check.same(name + "laws", x.rail(0, 3), plain.laws.size());
        check.same(name + "clerks", x.rail(0, 4), plain.clerks.size());
        for (int c = 0; c < 10; c++) {
            boolean there = c < plain.clerks.size();
            check.same(name + "clerk " + c, x.rail(0, 10 + c), there ? plain.clerks.get(c)[0] : NONE);
            check.same(name + "clerk in " + c, x.rail(0, 20 + c), there ? plain.clerks.get(c)[1] : NONE);
        }
        for (int p = 0; p < 10; p++) {
            boolean there = p < plain.places.size();
            check.same(name + "permit " + p, x.rail(0, 30 + p), there ? plain.places.get(p) : NONE);
            check.same(name + "needs " + p, x.rail(0, 40 + p), there ? bits(plain.needs.get(p)) : NONE);
        }
        for (int l = 0; l < 10; l++) {
            boolean there = l < plain.laws.size();
            check.same(name + "law " + l, x.rail(0, 50 + l), there ? plain.laws.get(l)[0] : NONE);
            check.same(name + "behind " + l, x.rail(0, 60 + l), there ? plain.laws.get(l)[1] : NONE);
        }
        for (int t = 0; t < 100; t++) {
            for (int what = 0; what < 4; what++) {
                int due = t < plain.trains.size() ? plain.trains.get(t)[what] : NONE;
                check.same(name + "train " + t + " " + what, x.rail(0, 100 * (what + 1) + t), due);
            }
        }
    }

    private static int bits(Set<Integer> set) {
        int bits = 0;
        for (int n : set) {
            bits |= 1 << n;
        }
        return bits;
    }

    private static void sameWays(String name, ElsewhereStamps x, Plain plain, Random random) {
        for (int i = 0; i < 30; i++) {
            int from = random.nextInt(plain.lands);
            int to = random.nextInt(plain.lands);
            int hour = random.nextInt(100);
            String call = name + from + " " + hour + " " + to;
            int due = plain.soonest(from, hour, to);
            check.same(call + " soonest", x.soonest(0, from, hour, to, false), due == NONE ? -2 : due);
            int train = due == NONE ? -2 : plain.firstTrain(from, hour, to);
            check.same(call + " first train", x.soonest(0, from, hour, to, true), train);
            check.same(call + " latest", x.latest(0, from, to, hour), plain.latest(from, to, hour));
            List<Integer> board = plain.board(from, hour);
            for (int k = -1; k <= 12; k++) {
                boolean there = k >= 0 && k < board.size();
                check.same(call + " board " + k, x.board(0, from, hour, k), there ? board.get(k) : NONE);
            }
        }
        for (int n = 1; n <= 6; n++) {
            int[] due = n > plain.lands ? null : plain.offices(n);
            check.same(name + "offices " + n, x.offices(0, n, false), due == null ? NONE : due[0]);
            check.same(name + "hours of offices " + n, x.offices(0, n, true), due == null ? NONE : due[1]);
        }
        check.same(name + "widest", x.lands(0, 0), plain.widest());
        check.same(name + "hub", x.lands(0, 1), plain.hub()[0]);
        check.same(name + "couples left", x.lands(0, 2), plain.hub()[1]);
        for (int l = 0; l < 10; l++) {
            check.same(name + "reach " + l, x.lands(0, 10 + l), l < plain.lands ? plain.reach(l) : NONE);
            for (int reading = 0; reading < 4; reading++) {
                int due = l < plain.lands ? plain.counts(l, reading) : NONE;
                check.same(name + "counts " + l + " " + reading, x.counts(0, l, reading), due);
            }
        }
    }

    private static void sameTrains(String name, ElsewhereStamps x, Plain plain, Random random) {
        check.same(name + "key", x.trains(0, 0), plain.key()[0]);
        check.same(name + "hours of key", x.trains(0, 1), plain.key()[1]);
        check.same(name + "spare", x.trains(0, 2), plain.spare());
        for (int t = 0; t < plain.trains.size(); t++) {
            int hour = random.nextInt(100);
            int p = random.nextInt(10);
            long above = x.mean(0, t, hour, p, false);
            long below = x.mean(0, t, hour, p, true);
            boolean near = below > 0 && Math.abs((double) above / below - plain.mean(t, hour, p)) < 0.0001;
            check.same(name + "mean " + t + " " + hour + " " + p, near, true);
            boolean least = true;
            for (int d = 2; d <= below; d++) {
                least = least && (above % d != 0 || below % d != 0);
            }
            check.same(name + "least terms", least, true);
        }
        for (int i = 0; i < 3; i++) {
            int from = random.nextInt(plain.lands);
            int to = random.nextInt(plain.lands);
            for (int n = 0; n <= 3; n++) {
                int[] due = plain.cut(n, from, to, Set.of(), true);
                String call = name + "cut " + n + " " + from + " " + to;
                check.same(call, x.cut(0, n, from, to, false), due[0]);
                check.same(call + " first", x.cut(0, n, from, to, true), due[1]);
            }
        }
    }

    private static void sameClerks(String name, ElsewhereStamps x, Plain plain) {
        List<Integer> all = new ArrayList<>();
        for (int c = 0; c < plain.clerks.size(); c++) {
            all.add(c);
            check.same(name + "duty " + c, x.duty(0, c), plain.duty(c));
            List<Integer> round = plain.round(c);
            for (int k = -2; k < 7; k++) {
                boolean there = k + 1 >= 0 && k + 1 < round.size();
                check.same(name + "round " + c + " " + k, x.round(0, c, k), there ? round.get(k + 1) : NONE);
            }
            for (int d = 0; d < plain.clerks.size(); d++) {
                int[] due = plain.gathered(List.of(c, d));
                check.same(name + "meeting", x.meeting(0, c, d, false), due == null ? NONE : due[0]);
                check.same(name + "meeting land", x.meeting(0, c, d, true), due == null ? NONE : due[1]);
            }
        }
        int[] due = all.isEmpty() ? null : plain.gathered(all);
        check.same(name + "gathered", x.gathered(0, false), due == null ? NONE : due[0]);
        check.same(name + "gathered land", x.gathered(0, true), due == null ? NONE : due[1]);
    }

    private static void samePermits(String name, ElsewhereStamps x, Plain plain) {
        int stuck = 0;
        for (int p = 0; p < plain.places.size(); p++) {
            List<List<Integer>> orders = plain.orders(p);
            String call = name + "permit " + p + " ";
            check.same(call + "orders", x.orders(0, p, NONE), orders.size());
            for (int k = 0; k < 6; k++) {
                boolean there = !orders.isEmpty() && k < orders.get(0).size();
                check.same(call + "order " + k, x.orders(0, p, k), there ? orders.get(0).get(k) : NONE);
            }
            stuck |= orders.isEmpty() ? 1 << p : 0;
            check.same(call + "lacks", x.lacks(0, p, false), plain.lacks(p));
            check.same(call + "ready", x.lacks(0, p, true), plain.ready(p, plain.places.get(p)));
            check.same(call + "ledge", x.ledge(0, p, false), plain.ledge(p)[0]);
            check.same(call + "hour of ledge", x.ledge(0, p, true), plain.ledge(p)[1]);
        }
        check.same(name + "stuck", x.stuck(0), stuck);
        check.same(name + "busy", x.busy(0, false), plain.busy()[0]);
        check.same(name + "how busy", x.busy(0, true), plain.busy()[1]);
    }

    private static void sameRings(String name, ElsewhereStamps x, Plain plain) {
        check.same(name + "ring", x.ring(0, 0), plain.ring(63));
        check.same(name + "break", x.ring(0, 1), plain.breaks());
        for (int l = 0; l < 10; l++) {
            check.same(name + "asks " + l, x.ring(0, 10 + l), l < plain.lands ? plain.asks(l) : -2);
        }
        for (int reading = 0; reading < 4; reading++) {
            check.same(name + "read " + reading, x.counts(0, NONE, reading), plain.read(reading));
        }
    }

    /** DEEDS by chance, most of them such as may be, so that months are long. */
    private static List<int[]> someDeeds(Plain plain, Random random) {
        List<int[]> deeds = new ArrayList<>();
        PlainMonth month = new PlainMonth(plain);
        int most = random.nextInt(41);
        for (int i = 0; i < 2000 && deeds.size() < most; i++) {
            int kind = random.nextInt(3);
            int[] below = {12, 24, 8};
            int[] deed = {kind, random.nextInt(4), random.nextInt(below[kind]) + (kind == 1 ? 1 : 0)};
            boolean rarelyWait = kind != 1 || random.nextInt(6) == 0;
            if (rarelyWait && (month.may(deed) || random.nextInt(400) == 0)) {
                if (month.may(deed)) {
                    month.run(List.of(deed), Integer.MAX_VALUE);
                }
                deeds.add(deed);
            }
        }
        return deeds;
    }

    private static void sameMonth(String name, ElsewhereStamps x, Plain plain, Random random) {
        List<int[]> deeds = someDeeds(plain, random);
        String[] words = {"ride", "wait", "mark"};
        StringBuilder text = new StringBuilder();
        for (int[] deed : deeds) {
            text.append(words[deed[0]]).append(' ').append(deed[1]).append(' ').append(deed[2]).append(';');
        }
        check.same(name + "month", Tape.tell(x, text.toString(), Tape.MONTH, 0), 0);
        check.same(name + "deeds", x.deed(0, NONE, 0), deeds.size());
        for (int k = 0; k < deeds.size(); k++) {
            for (int what = 0; what < 3; what++) {
                check.same(name + "deed " + k + " " + what, x.deed(0, k, what), deeds.get(k)[what]);
            }
        }
        PlainMonth whole = new PlainMonth(plain);
        int end = whole.run(deeds, 99);
        check.same(name + "till", x.till(0, 0), end);
        check.same(name + "no state", x.state(0, 0, end + 1, 0), -2);
        for (int what = -2; what < 45; what++) {
            check.same(name + "after " + what, x.after(0, 0, what), whole.after(what));
        }
        for (int n = 0; n <= end; n += 1 + random.nextInt(6)) {
            PlainMonth part = new PlainMonth(plain);
            part.run(deeds, n);
            for (int what = -3; what < 200; what++) {
                check.same(name + "state " + n + " " + what, x.state(0, 0, n, what), part.state(what));
            }
        }
    }

    private static void sameDrawn(String name, ElsewhereStamps x, Plain plain, Random random) {
        for (int i = 0; i < 3; i++) {
            int seed = random.nextInt();
            int n = random.nextInt(61);
            PlainMonth month = new PlainMonth(plain);
            month.draw(seed, n);
            for (int what = -3; what < 200; what++) {
                check.same(name + "drawn " + seed + " " + n + " " + what, x.drawn(0, seed, n, what), month.state(what));
            }
        }
    }

    private static void sameLog(String name, ElsewhereStamps x, Plain plain, Random random) {
        List<int[]> sights = new ArrayList<>();
        int many = random.nextInt(9);
        for (int i = 0; i < 40 && sights.size() < many; i++) {
            int land = random.nextInt(random.nextInt(30) == 0 ? 6 : plain.lands);
            int hour = random.nextInt(4) == 0 ? 99 * random.nextInt(2) : random.nextInt(100);
            sights.add(new int[] {land, hour});
            if (random.nextInt(8) != 0 && plain.could(sights) == null) {
                sights.remove(sights.size() - 1);
            }
        }
        StringBuilder text = new StringBuilder();
        for (int[] sight : sights) {
            text.append("seen ").append(sight[0]).append(' ').append(sight[1]).append(';');
        }
        check.same(name + "log", Tape.tell(x, text.toString(), Tape.LOG, 0), 0);
        check.same(name + "sights", x.sight(0, NONE, 0), sights.size());
        for (int k = 0; k < sights.size(); k++) {
            check.same(name + "sight land", x.sight(0, k, 0), sights.get(k)[0]);
            check.same(name + "sight hour", x.sight(0, k, 1), sights.get(k)[1]);
        }
        int[] could = plain.could(sights);
        int free = 0;
        for (int hour = 0; hour < 100; hour++) {
            check.same(name + "could " + hour, x.could(0, 0, hour), could == null ? NONE : could[hour]);
            free += could != null && Integer.bitCount(could[hour]) != 1 ? 1 : 0;
        }
        check.same(name + "began", x.could(0, 0, NONE), could == null ? NONE : could[0]);
        check.same(name + "free", x.could(0, 0, -2), could == null ? NONE : free);
        check.same(name + "certain", x.certain(0, 0, false), could == null ? -2 : Plain.certain(could)[0]);
        check.same(name + "certain first", x.certain(0, 0, true), could == null ? -2 : Plain.certain(could)[1]);
    }
}
