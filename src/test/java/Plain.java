import java.util.ArrayList;
import java.util.Collections;
import java.util.Comparator;
import java.util.HashMap;
import java.util.HashSet;
import java.util.List;
import java.util.Map;
import java.util.Set;
import java.util.TreeSet;

/**
 * The terms of the document once more, hour by hour and order by order, as plainly as can be: slow, and made in
 * another way than the class, so that both are not wrong alike.
 */
final class Plain {
    static final int NONE = -1;
    static final int NO = -2;
    private static final int SPAN = 260;

    int lands = 3;
    final List<int[]> trains = new ArrayList<>();
    final List<Integer> places = new ArrayList<>();
    final List<Set<Integer>> needs = new ArrayList<>();
    final List<int[]> laws = new ArrayList<>();
    final List<int[]> clerks = new ArrayList<>();
    private final Map<String, Integer> known = new HashMap<>();

    /** Hour by hour: where one can stand; the first HOUR in each LAND. */
    private int[] firstHours(int from, int hour, Set<Integer> away) {
        boolean[][] stands = new boolean[SPAN + 40][lands];
        stands[0][from] = true;
        int[] first = new int[lands];
        java.util.Arrays.fill(first, NONE);
        for (int h = 0; h < SPAN; h++) {
            for (int l = 0; l < lands; l++) {
                if (!stands[h][l]) {
                    continue;
                }
                if (first[l] == NONE) {
                    first[l] = hour + h;
                }
                stands[h + 1][l] = true;
                for (int t = 0; t < trains.size(); t++) {
                    int[] train = trains.get(t);
                    if (!away.contains(t) && train[0] == l && train[2] == (hour + h) % 12) {
                        stands[h + train[3]][train[1]] = true;
                    }
                }
            }
        }
        return first;
    }

    int soonest(int from, int hour, int to, Set<Integer> away) {
        String key = from + " " + hour + " " + to + " " + new TreeSet<>(away);
        Integer had = known.get(key);
        if (had == null) {
            int[] first = firstHours(from, hour, away);
            for (int l = 0; l < lands; l++) {
                known.put(from + " " + hour + " " + l + " " + new TreeSet<>(away), first[l]);
            }
            had = first[to];
        }
        return had;
    }

    int soonest(int from, int hour, int to) {
        return soonest(from, hour, to, Set.of());
    }

    int firstTrain(int from, int hour, int to) {
        if (from == to) {
            return NONE;
        }
        int best = soonest(from, hour, to);
        for (int t = 0; t < trains.size(); t++) {
            int[] train = trains.get(t);
            for (int leave = hour; leave < hour + 12; leave++) {
                if (train[0] == from && leave % 12 == train[2]) {
                    int then = soonest(train[1], leave + train[3], to);
                    if (then != NONE && then == best) {
                        return t;
                    }
                }
            }
        }
        throw new IllegalStateException("no first train");
    }

    int duty(int clerk) {
        int bits = 0;
        for (int p = 0; p < places.size(); p++) {
            if (needs.get(p).contains(clerks.get(clerk)[0])) {
                bits += 1 << p;
            }
        }
        return bits;
    }

    /** The HOUR, then the row; empty if it can't be. */
    List<Integer> round(int clerk) {
        Set<Integer> goals = new TreeSet<>();
        for (int p = 0; p < places.size(); p++) {
            if (needs.get(p).contains(clerks.get(clerk)[0])) {
                goals.add(places.get(p));
            }
        }
        List<Integer> best = List.of();
        for (List<Integer> order : orders(new ArrayList<>(goals))) {
            int hour = 0;
            int at = clerks.get(clerk)[1];
            for (int land : order) {
                hour = hour == NONE ? NONE : soonest(at, hour, land);
                at = land;
                for (int p = 0; p < places.size() && hour != NONE; p++) {
                    if (places.get(p) == land && needs.get(p).contains(clerks.get(clerk)[0])) {
                        hour++;
                    }
                }
            }
            if (hour != NONE && (best.isEmpty() || hour < best.get(0))) {
                best = new ArrayList<>();
                best.add(hour);
                best.addAll(order);
            }
        }
        return best;
    }

    /** All orders, the first by numbers first, if the list is sorted. */
    static List<List<Integer>> orders(List<Integer> of) {
        List<List<Integer>> all = new ArrayList<>();
        if (of.isEmpty()) {
            all.add(new ArrayList<>());
        }
        for (Integer first : of) {
            List<Integer> rest = new ArrayList<>(of);
            rest.remove(first);
            for (List<Integer> tail : orders(rest)) {
                tail.add(0, first);
                all.add(tail);
            }
        }
        return all;
    }

    /** The HOUR and the LAND, hour by hour; null if never. */
    int[] gathered(List<Integer> which) {
        for (int hour = 0; hour < SPAN; hour++) {
            for (int land = 0; land < lands; land++) {
                boolean all = true;
                for (int c : which) {
                    int there = soonest(clerks.get(c)[1], 0, land);
                    all = all && there != NONE && there <= hour;
                }
                if (all) {
                    return new int[] {hour, land};
                }
            }
        }
        return null;
    }

    int[] offices(int n) {
        int[] best = null;
        for (int bits = 0; bits < 1 << lands; bits++) {
            if (Integer.bitCount(bits) != n) {
                continue;
            }
            int sum = 0;
            for (int l = 0; l < lands && sum != NONE; l++) {
                List<Integer> hours = new ArrayList<>();
                for (int o = 0; o < lands; o++) {
                    if ((bits >> o & 1) == 1 && soonest(l, 0, o) != NONE) {
                        hours.add(soonest(l, 0, o));
                    }
                }
                sum = hours.isEmpty() ? NONE : sum + Collections.min(hours);
            }
            if (sum != NONE && (best == null || sum < best[1])) {
                best = new int[] {bits, sum};
            }
        }
        return best;
    }

    /** The whole game of the ministers; what is best, and what is taken first. */
    int[] cut(int n, int from, int to, Set<Integer> away, boolean first) {
        if (n == 0) {
            int hour = soonest(from, 0, to, away);
            return new int[] {hour == NONE ? 999 : hour, NONE};
        }
        int[] best = null;
        for (int t = 0; t <= trains.size(); t++) {
            Set<Integer> then = new HashSet<>(away);
            if (t < trains.size()) {
                then.add(t);
            }
            int value = cut(n - 1, from, to, then, !first)[0];
            if (best == null || (first ? value > best[0] : value < best[0])) {
                best = new int[] {value, t < trains.size() ? t : 12};
            }
        }
        return best;
    }

    /** The mean as a sum over DAYS, in parts of ten: good to a hair. */
    double mean(int train, int hour, int p) {
        int leave = hour;
        while (leave % 12 != trains.get(train)[2]) {
            leave++;
        }
        double mean = 0;
        double still = 1;
        for (int day = 0; day < 2000; day++) {
            mean += still * (10 - p) / 10 * (leave + 12 * day + trains.get(train)[3]);
            still = still * p / 10;
        }
        return mean;
    }

    int asks(int land) {
        int bits = 0;
        for (int p = 0; p < places.size(); p++) {
            for (int l : needs.get(p)) {
                bits |= places.get(p) == land ? 1 << l : 0;
            }
        }
        return bits;
    }

    /** The shortest way back to its first LAND that a path can be made to, by trying all paths. */
    private int shortestRing(List<Integer> path, int among) {
        int best = 99;
        for (int l = 0; l < lands; l++) {
            int last = path.get(path.size() - 1);
            if ((among >> l & 1) == 1 && (asks(last) >> l & 1) == 1) {
                if (l == path.get(0)) {
                    best = Math.min(best, path.size());
                } else if (!path.contains(l)) {
                    path.add(l);
                    best = Math.min(best, shortestRing(path, among));
                    path.remove(path.size() - 1);
                }
            }
        }
        return best;
    }

    int ring(int among) {
        int best = 99;
        for (int l = 0; l < lands; l++) {
            if ((among >> l & 1) == 1) {
                best = Math.min(best, shortestRing(new ArrayList<>(List.of(l)), among));
            }
        }
        return best == 99 ? NONE : best;
    }

    int breaks() {
        List<Integer> all = new ArrayList<>();
        for (int bits = 0; bits < 1 << lands; bits++) {
            if (ring((1 << lands) - 1 - bits) == NONE) {
                all.add(bits);
            }
        }
        all.sort(Comparator.comparing((Integer bits) -> Integer.bitCount(bits)).thenComparing(bits -> bits));
        return all.get(0);
    }

    private boolean trainGoes(int from, int to) {
        return trains.stream().anyMatch(t -> t[0] == from && t[1] == to);
    }

    private boolean comes(int from, int to) {
        return soonest(from, 0, to) != NONE;
    }

    int counts(int land, int reading) {
        int bits = 0;
        for (int l = 0; l < lands; l++) {
            boolean elsewhere = l != land && (reading == 0 || reading == 1 && trainGoes(land, l)
                || reading == 2 && comes(land, l) || reading == 3 && !trainGoes(land, l) && !trainGoes(l, land));
            bits |= elsewhere ? 1 << l : 0;
        }
        return bits;
    }

    int read(int reading) {
        int bits = 0;
        for (int p = 0; p < places.size(); p++) {
            boolean all = true;
            for (int l : needs.get(p)) {
                all = all && (counts(places.get(p), reading) >> l & 1) == 1;
            }
            bits |= all ? 1 << p : 0;
        }
        return bits;
    }

    /** Whether a clerk can be seen so: hour by hour, all states in which he can be (a land, or land * 1000 + arrival). */
    boolean feasible(List<int[]> sights) {
        Set<Integer> states = new HashSet<>();
        for (int l = 0; l < lands; l++) {
            states.add(l);
        }
        for (int hour = 0; hour < 100; hour++) {
            Set<Integer> next = new HashSet<>();
            for (int state : states) {
                boolean arrives = state >= 1000 && state % 1000 == hour;
                next.add(arrives ? state / 1000 - 1 : state);
            }
            int now = hour;
            for (int[] sight : sights) {
                if (sight[1] == now) {
                    next.removeIf(state -> state != sight[0]);
                }
            }
            states = new HashSet<>(next);
            for (int state : next) {
                for (int[] train : trains) {
                    if (state == train[0] && hour % 12 == train[2]) {
                        states.add((train[1] + 1) * 1000 + hour + train[3]);
                    }
                }
            }
        }
        return !states.isEmpty();
    }

    /** By HOUR the LANDS; null if it can't be as seen. */
    int[] could(List<int[]> sights) {
        for (int[] sight : sights) {
            if (sight[0] >= lands) {
                return null;
            }
        }
        if (!feasible(sights)) {
            return null;
        }
        int[] all = new int[100];
        for (int hour = 0; hour < 100; hour++) {
            for (int l = 0; l < lands; l++) {
                List<int[]> more = new ArrayList<>(sights);
                more.add(new int[] {l, hour});
                all[hour] |= feasible(more) ? 1 << l : 0;
            }
        }
        return all;
    }

    static int[] certain(int[] could) {
        int[] best = {0, NONE};
        for (int from = 0; from < 100; from++) {
            int to = from;
            while (to < 100 && Integer.bitCount(could[to]) == 1 && could[to] == could[from]) {
                to++;
            }
            if (to - from > best[0]) {
                best = new int[] {to - from, from};
            }
        }
        return best;
    }

    int widest() {
        int widest = 0;
        for (int a = 0; a < lands; a++) {
            for (int b = 0; b < lands; b++) {
                widest = Math.max(widest, soonest(a, 0, b));
            }
        }
        return widest;
    }

    int[] hub() {
        int[] best = null;
        for (int x = 0; x < lands; x++) {
            Set<Integer> away = new HashSet<>();
            for (int t = 0; t < trains.size(); t++) {
                if (trains.get(t)[0] == x || trains.get(t)[1] == x) {
                    away.add(t);
                }
            }
            int left = 0;
            for (int a = 0; a < lands; a++) {
                for (int b = 0; b < lands; b++) {
                    left += a != b && a != x && b != x && soonest(a, 0, b, away) != NONE ? 1 : 0;
                }
            }
            if (best == null || left < best[1]) {
                best = new int[] {x, left};
            }
        }
        return best;
    }

    int reach(int land) {
        int bits = 0;
        for (int l = 0; l < lands; l++) {
            bits |= comes(land, l) ? 1 << l : 0;
        }
        return bits;
    }

    int[] key() {
        int[] best = {NONE, NONE};
        for (int t = 0; t < trains.size(); t++) {
            int sum = 0;
            for (int a = 0; a < lands; a++) {
                for (int b = 0; b < lands; b++) {
                    int hour = soonest(a, 0, b, Set.of(t));
                    sum += hour == NONE ? 999 : hour;
                }
            }
            if (sum > best[1]) {
                best = new int[] {t, sum};
            }
        }
        return best;
    }

    int spare() {
        int bits = 0;
        for (int t = 0; t < trains.size(); t++) {
            boolean same = true;
            for (int hour = 0; hour < 12; hour++) {
                for (int a = 0; a < lands; a++) {
                    for (int b = 0; b < lands; b++) {
                        same = same && soonest(a, hour, b) == soonest(a, hour, b, Set.of(t));
                    }
                }
            }
            bits |= same ? 1 << t : 0;
        }
        return bits;
    }

    int latest(int from, int to, int by) {
        int latest = NONE;
        for (int hour = 0; hour <= by; hour++) {
            int there = soonest(from, hour, to);
            if (there != NONE && there <= by) {
                latest = hour;
            }
        }
        return latest;
    }

    List<Integer> board(int land, int hour) {
        List<Integer> board = new ArrayList<>();
        for (int leave = hour; leave < hour + 12; leave++) {
            for (int t = 0; t < trains.size(); t++) {
                if (trains.get(t)[0] == land && leave % 12 == trains.get(t)[2]) {
                    board.add(t);
                }
            }
        }
        return board;
    }

    /** All orders of its MARKS that the LAWS allow, the first by numbers first. */
    List<List<Integer>> orders(int permit) {
        List<List<Integer>> all = orders(new ArrayList<>(new TreeSet<>(needs.get(permit))));
        all.removeIf(order -> {
            for (int[] law : laws) {
                int whose = order.indexOf(law[0]);
                int behind = order.indexOf(law[1]);
                if (whose >= 0 && behind >= 0 && whose < behind) {
                    return true;
                }
            }
            return false;
        });
        return all;
    }

    int lacks(int permit) {
        int bits = 0;
        for (int l : needs.get(permit)) {
            boolean one = clerks.stream().anyMatch(c -> c[0] == l && comes(c[1], places.get(permit)));
            bits |= one ? 0 : 1 << l;
        }
        return bits;
    }

    /** Hour by hour, every MARK is made that can be. */
    int ready(int permit, int place) {
        Set<Integer> made = new HashSet<>();
        int last = 0;
        for (int hour = 0; hour < SPAN && made.size() < needs.get(permit).size(); hour++) {
            for (int again = 0; again < 6; again++) {
                for (int l : needs.get(permit)) {
                    if (!made.contains(l) && someClerkThere(l, place, hour) && lawsKept(permit, l, made)) {
                        made.add(l);
                        last = hour;
                    }
                }
            }
        }
        return made.size() < needs.get(permit).size() ? NONE : last;
    }

    private boolean someClerkThere(int land, int place, int hour) {
        for (int[] clerk : clerks) {
            int there = soonest(clerk[1], 0, place);
            if (clerk[0] == land && there != NONE && there <= hour) {
                return true;
            }
        }
        return false;
    }

    private boolean lawsKept(int permit, int land, Set<Integer> made) {
        for (int[] law : laws) {
            if (law[0] == land && needs.get(permit).contains(law[1]) && !made.contains(law[1])) {
                return false;
            }
        }
        return true;
    }

    int[] ledge(int permit) {
        int[] best = {NONE, NONE};
        for (int l = 0; l < lands; l++) {
            int ready = needs.get(permit).contains(l) ? NONE : ready(permit, l);
            if (ready != NONE && (best[0] == NONE || ready < best[1])) {
                best = new int[] {l, ready};
            }
        }
        return best;
    }

    int[] busy() {
        int[] best = {NONE, 0};
        for (int l = 0; l < lands; l++) {
            int land = l;
            int many = (int) needs.stream().filter(n -> n.contains(land)).count();
            if (many > best[1]) {
                best = new int[] {l, many};
            }
        }
        return best;
    }
}
