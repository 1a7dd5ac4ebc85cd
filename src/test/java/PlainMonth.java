import java.util.HashMap;
import java.util.List;
import java.util.Map;

/** A month of a rail, once more: CLERK by CLERK, with maps. */
final class PlainMonth {
    static final int NONE = -1;
    static final int NO = -2;

    final Plain rail;
    final Map<Integer, Integer> at = new HashMap<>();
    final Map<Integer, Integer> hour = new HashMap<>();
    final Map<Integer, Integer> made = new HashMap<>();
    final Map<Integer, Integer> ridden = new HashMap<>();
    final Map<Integer, Integer> waited = new HashMap<>();
    /** PERMIT and LAND to the HOUR. */
    final Map<List<Integer>, Integer> marks = new HashMap<>();
    int first = NONE;
    int done = 0;

    PlainMonth(Plain rail) {
        this.rail = rail;
        for (int c = 0; c < rail.clerks.size(); c++) {
            at.put(c, rail.clerks.get(c)[1]);
            hour.put(c, 0);
            made.put(c, 0);
            ridden.put(c, 0);
            waited.put(c, 0);
        }
    }

    /** Does at most so many DEEDS: how many could be. */
    int run(List<int[]> deeds, int most) {
        for (int[] deed : deeds) {
            if (done == most || !may(deed)) {
                return done;
            }
            int before = Integer.bitCount(donePermits());
            act(deed);
            if (first == NONE && Integer.bitCount(donePermits()) > before) {
                first = done;
            }
            done++;
        }
        return done;
    }

    void draw(int seed, int n) {
        long[] x = {seed & 0xffffffffL};
        for (int i = 0; i < n; i++) {
            int kind = next(x, 8);
            if (rail.clerks.isEmpty()) {
                continue;
            }
            int clerk = next(x, rail.clerks.size());
            int sort = kind <= 2 ? 0 : kind <= 6 ? 2 : 1;
            int below = sort == 0 ? rail.trains.size() : sort == 2 ? rail.places.size() : 12;
            if (below > 0) {
                int[] deed = {sort, clerk, next(x, below) + (sort == 1 ? 1 : 0)};
                if (may(deed)) {
                    act(deed);
                }
            }
        }
    }

    private static int next(long[] x, int below) {
        x[0] = (x[0] * 1103515245L + 12345L) & 0xffffffffL;
        return (int) ((x[0] >> 16) % below);
    }

    boolean may(int[] deed) {
        int c = deed[1];
        if (c >= rail.clerks.size()) {
            return false;
        }
        if (deed[0] == 0) {
            return deed[2] < rail.trains.size() && rail.trains.get(deed[2])[0] == at.get(c)
                && leave(c, deed[2]) + rail.trains.get(deed[2])[3] <= 299;
        }
        if (deed[0] == 1) {
            return hour.get(c) + deed[2] <= 299;
        }
        int p = deed[2];
        int own = rail.clerks.get(c)[0];
        if (p >= rail.places.size() || !rail.places.get(p).equals(at.get(c)) || !rail.needs.get(p).contains(own)
            || marks.containsKey(List.of(p, own)) || hour.get(c) + 1 > 299) {
            return false;
        }
        for (int[] law : rail.laws) {
            if (law[0] == own && rail.needs.get(p).contains(law[1])) {
                Integer then = marks.get(List.of(p, law[1]));
                if (then == null || then > hour.get(c)) {
                    return false;
                }
            }
        }
        return true;
    }

    private int leave(int clerk, int train) {
        int leave = hour.get(clerk);
        while (leave % 12 != rail.trains.get(train)[2]) {
            leave++;
        }
        return leave;
    }

    private void act(int[] deed) {
        int c = deed[1];
        if (deed[0] == 0) {
            int leave = leave(c, deed[2]);
            int takes = rail.trains.get(deed[2])[3];
            waited.merge(c, leave - hour.get(c), Integer::sum);
            ridden.merge(c, takes, Integer::sum);
            hour.put(c, leave + takes);
            at.put(c, rail.trains.get(deed[2])[1]);
        } else if (deed[0] == 1) {
            waited.merge(c, deed[2], Integer::sum);
            hour.merge(c, deed[2], Integer::sum);
        } else {
            marks.put(List.of(deed[2], rail.clerks.get(c)[0]), hour.get(c));
            hour.merge(c, 1, Integer::sum);
            made.merge(c, 1, Integer::sum);
        }
    }

    private int donePermits() {
        int bits = 0;
        for (int p = 0; p < rail.places.size(); p++) {
            int permit = p;
            bits |= rail.needs.get(p).stream().allMatch(l -> marks.containsKey(List.of(permit, l))) ? 1 << p : 0;
        }
        return bits;
    }

    int state(int what) {
        if (what == 0) {
            return marks.size();
        }
        if (what == 1) {
            return donePermits();
        }
        if (what == 2) {
            return hour.values().stream().mapToInt(h -> h).max().orElse(0);
        }
        for (int c = 0; c < rail.clerks.size(); c++) {
            if (what == 10 + c) {
                return at.get(c);
            }
            if (what == 20 + c) {
                return hour.get(c);
            }
            if (what == 30 + c) {
                return made.get(c);
            }
        }
        for (int p = 0; p < rail.places.size(); p++) {
            int bits = 0;
            for (int l = 0; l < rail.lands; l++) {
                Integer then = marks.get(List.of(p, l));
                bits |= then != null ? 1 << l : 0;
                if (what == 100 + 10 * p + l) {
                    return then == null ? NONE : then;
                }
            }
            if (what == 40 + p) {
                return bits;
            }
        }
        return NO;
    }

    int after(int what) {
        if (what == 0) {
            return first;
        }
        for (int c = 0; c < rail.clerks.size(); c++) {
            if (what == 10 + c) {
                int bits = 0;
                for (int p = 0; p < rail.places.size(); p++) {
                    bits |= may(new int[] {2, c, p}) ? 1 << p : 0;
                }
                return bits;
            }
            if (what == 20 + c) {
                return ridden.get(c);
            }
            if (what == 30 + c) {
                return waited.get(c);
            }
        }
        return NO;
    }
}
