import java.util.ArrayList;
import java.util.Arrays;
import java.util.HashMap;
import java.util.HashSet;
import java.util.List;
import java.util.Map;
import java.util.Set;

/**
 * The document once more, as slowly and plainly as it can be said: nothing is kept but what was
 * told, and every answer is worked anew from the words of the Terms.
 */
final class PlainModel {
    private int[] size = {1, 1, 1};
    private final List<int[]> steps = new ArrayList<>();
    private final List<int[]> acts = new ArrayList<>();
    private final Map<List<Integer>, Integer> edges = new HashMap<>();
    private int[][] laying = {{1, 1, 1}, {1, 0, 0}, {0, 0, 0}};
    private int fold = 1;
    private boolean ran = false;

    boolean sizes(int i, int j, int k) {
        int[] told = {i, j, k};
        for (int n : told) {
            if (n < 1 || n > 8) return false;
        }
        size = told;
        edges.clear();
        ran = false;
        return true;
    }

    int variable(int i, int j, int k) {
        int[] told = {i, j, k};
        int lead = 0;
        for (int n : told) {
            if (n < -2 || n > 2) return -1;
            if (lead == 0) lead = n;
        }
        if (lead <= 0 || steps.size() == 4) return -1;
        steps.add(told);
        acts.add(new int[] {0, 0, 0});
        ran = false;
        return steps.size() - 1;
    }

    private boolean known(int v) {
        return v >= 0 && v < steps.size();
    }

    boolean act(int v, int act, int a, int b) {
        if (!known(v) || !known(a) || !known(b) || act < 0 || act > 7) return false;
        acts.set(v, new int[] {act, a, b});
        ran = false;
        return true;
    }

    private boolean isPoint(int... p) {
        return p[0] >= 0 && p[0] < size[0] && p[1] >= 0 && p[1] < size[1] && p[2] >= 0 && p[2] < size[2];
    }

    boolean edge(int v, int i, int j, int k, int value) {
        if (!known(v) || !isPoint(i, j, k)) return false;
        edges.put(List.of(v, i, j, k), value);
        ran = false;
        return true;
    }

    void clear() {
        steps.clear();
        acts.clear();
        edges.clear();
        ran = false;
    }

    boolean lay(int which, int i, int j, int k) {
        int[] told = {i, j, k};
        if (which < 0 || which > 2) return false;
        for (int n : told) {
            if (n < -3 || n > 3) return false;
        }
        if (which == 1 && i == 0 && j == 0 && k == 0) return false;
        laying[which] = told;
        ran = false;
        return true;
    }

    boolean fold(int f) {
        if (f < 1 || f > 8) return false;
        fold = f;
        ran = false;
        return true;
    }

    private List<int[]> points() {
        List<int[]> all = new ArrayList<>();
        for (int i = 0; i < size[0]; i++)
            for (int j = 0; j < size[1]; j++)
                for (int k = 0; k < size[2]; k++) all.add(new int[] {i, j, k});
        return all;
    }

    private static int times(int[] a, int[] b) {
        return a[0] * b[0] + a[1] * b[1] + a[2] * b[2];
    }

    private static int[] away(int[] p, int[] step, int sign) {
        return new int[] {p[0] + sign * step[0], p[1] + sign * step[1], p[2] + sign * step[2]};
    }

    private static int code(int[] p) {
        return 64 * p[0] + 8 * p[1] + p[2];
    }

    /** Beat, cell, second cell of every point, by rank. */
    private List<List<Integer>> places(int[][] l, int f) {
        List<int[]> all = points();
        int[] least = {Integer.MAX_VALUE, Integer.MAX_VALUE, Integer.MAX_VALUE};
        for (int[] p : all)
            for (int w = 0; w < 3; w++) least[w] = Math.min(least[w], times(p, l[w]));
        List<List<Integer>> places = new ArrayList<>();
        for (int[] p : all) {
            int b = times(p, l[0]) - least[0];
            int c = times(p, l[1]) - least[1];
            int d = times(p, l[2]) - least[2];
            places.add(List.of(f * b + c % f, c / f, d));
        }
        return places;
    }

    private boolean needed(int v) {
        for (int[] p : points()) {
            if (isPoint(away(p, steps.get(v), -1))) return true;
        }
        return false;
    }

    private int delay(int[][] l, int v) {
        return times(l[0], steps.get(v));
    }

    private int way(int[][] l, int v) {
        return Math.abs(times(l[1], steps.get(v))) + Math.abs(times(l[2], steps.get(v)));
    }

    private int[] reason(int[][] l) {
        for (int v = 0; v < steps.size(); v++) {
            if (needed(v) && delay(l, v) < 1) return new int[] {1, v, -1};
        }
        for (int v = 0; v < steps.size(); v++) {
            if (needed(v) && way(l, v) > delay(l, v)) return new int[] {2, v, -1};
        }
        List<int[]> all = points();
        Map<List<Integer>, Integer> first = new HashMap<>();
        List<List<Integer>> places = places(l, 1);
        for (int n = 0; n < all.size(); n++) {
            Integer other = first.putIfAbsent(places.get(n), n);
            if (other != null) return new int[] {3, code(all.get(n)), code(all.get(other))};
        }
        return new int[] {0, -1, -1};
    }

    int why(int what) {
        return what < 0 || what > 2 ? -1 : reason(laying)[what];
    }

    private static int beats(List<List<Integer>> places) {
        int beats = 0;
        for (List<Integer> at : places) beats = Math.max(beats, at.get(0) + 1);
        return beats;
    }

    private static int cells(List<List<Integer>> places) {
        Set<List<Integer>> cells = new HashSet<>();
        for (List<Integer> at : places) cells.add(at.subList(1, 3));
        return cells.size();
    }

    int laid(int what) {
        List<List<Integer>> places = places(laying, fold);
        switch (what) {
            case 0: return beats(places);
            case 1: return cells(places);
            case 2: return places.size() * 1000 / (beats(places) * cells(places));
            case 3: return apart(places);
            default: return -1;
        }
    }

    private static int apart(List<List<Integer>> places) {
        if (new HashSet<>(places).size() < places.size()) return -1;
        for (int n = 1; ; n++) {
            // Of sums begun n apart for ever, two meet just if beats are alike by n.
            Set<List<Integer>> taken = new HashSet<>();
            for (List<Integer> at : places) taken.add(List.of(at.get(0) % n, at.get(1), at.get(2)));
            if (taken.size() == places.size()) return n;
        }
    }

    int where(int i, int j, int k, int what) {
        if (!isPoint(i, j, k) || what < 0 || what > 2) return -1;
        return places(laying, fold).get((i * size[1] + j) * size[2] + k).get(what);
    }

    int needs(int v, int what) {
        if (!known(v) || what < 0 || what > 2) return -1000;
        if (what == 2) return needed(v) ? 1 : 0;
        return what == 0 ? delay(laying, v) : way(laying, v);
    }

    int best(int b, int lines) {
        if (!(b == 1 && (lines == 1 || lines == 2) || b == 2 && lines == 1)) return -1;
        int[][] best = null;
        int fewest = 0;
        List<int[]> vectors = new ArrayList<>();
        for (int i = -b; i <= b; i++)
            for (int j = -b; j <= b; j++)
                for (int k = -b; k <= b; k++) vectors.add(new int[] {i, j, k});
        List<int[]> seconds = lines == 2 ? vectors : List.of(new int[] {0, 0, 0});
        for (int[] t : vectors)
            for (int[] s : vectors)
                for (int[] r : seconds) {
                    if (isZero(s) || lines == 2 && isZero(r)) continue;
                    int[][] l = {t, s, r};
                    if (reason(l)[0] != 0) continue;
                    List<List<Integer>> places = places(l, 1);
                    int key = beats(places) * 1000 + cells(places);
                    if (best == null || key < fewest) {
                        best = l;
                        fewest = key;
                    }
                }
        if (best == null) return -1;
        laying = new int[][] {best[0].clone(), best[1].clone(), best[2].clone()};
        ran = false;
        return laid(0);
    }

    private static boolean isZero(int[] a) {
        return a[0] == 0 && a[1] == 0 && a[2] == 0;
    }

    int laying(int which, int k) {
        return which < 0 || which > 2 || k < 0 || k > 2 ? -1000 : laying[which][k];
    }

    int run() {
        if (reason(laying)[0] != 0) return -1;
        ran = true;
        return points().size();
    }

    int worked(int beat, int cell, int second) {
        if (!ran) return -1;
        int n = places(laying, fold).indexOf(List.of(beat, cell, second));
        return n < 0 ? -1 : code(points().get(n));
    }

    int held(int beat) {
        List<List<Integer>> places = places(laying, fold);
        if (!ran || beat < 0 || beat >= beats(places)) return -1;
        int held = 0;
        for (int[] step : steps)
            for (int[] p : points()) {
                int[] q = away(p, step, 1);
                if (isPoint(q) && where(p[0], p[1], p[2], 0) <= beat && where(q[0], q[1], q[2], 0) > beat) held++;
            }
        return held;
    }

    int value(int v, int i, int j, int k) {
        return ran ? plain(v, i, j, k) : 0;
    }

    private Map<List<Integer>, Integer> values() {
        Map<List<Integer>, Integer> values = new HashMap<>();
        for (int[] p : points())
            for (int v = 0; v < steps.size(); v++) {
                int[] act = acts.get(v);
                int own = comes(values, v, p);
                int a = comes(values, act[1], p);
                int b = comes(values, act[2], p);
                int[] made = {own, own + a * b, Math.min(own, a + b), Math.min(a, b), Math.max(a, b), a + b, a - b, a ^ b};
                values.put(List.of(v, p[0], p[1], p[2]), made[act[0]]);
            }
        return values;
    }

    private int comes(Map<List<Integer>, Integer> values, int v, int[] p) {
        int[] q = away(p, steps.get(v), -1);
        if (isPoint(q)) return values.get(List.of(v, q[0], q[1], q[2]));
        return edges.getOrDefault(List.of(v, p[0], p[1], p[2]), 0);
    }

    int plain(int v, int i, int j, int k) {
        return known(v) && isPoint(i, j, k) ? values().get(List.of(v, i, j, k)) : 0;
    }

    int result(int v, int n, int what) {
        if (!known(v) || n < 0 || what < 0 || what > 1) return -1;
        List<int[]> results = new ArrayList<>();
        for (int[] p : points()) {
            if (!isPoint(away(p, steps.get(v), 1))) results.add(p);
        }
        if (n >= results.size()) return -1;
        int[] p = results.get(n);
        return what == 0 ? code(p) : plain(v, p[0], p[1], p[2]);
    }

    int about(int what) {
        if (what >= 10 && what <= 12) return size[what - 10];
        int[] answers = {steps.size(), points().size(), ran ? 1 : 0, fold};
        return what < 0 || what > 3 ? -1 : answers[what];
    }

    @Override
    public String toString() {
        return Arrays.toString(size) + " " + Arrays.deepToString(laying) + " fold " + fold
                + " steps " + Arrays.deepToString(steps.toArray()) + " acts " + Arrays.deepToString(acts.toArray());
    }
}
