import java.util.ArrayList;
import java.util.Arrays;
import java.util.List;
import java.util.Random;

/**
 * Promise 13 on every three SIZES there are: best against a search that looks at each point of
 * each laying. By FOLD 1 alone, where BEST can be read in one way only.
 */
public final class SearchTest {
    private static final int LINE = 64;
    private static int wrong = 0;
    private static int searches = 0;
    private static int trials = 0;
    /** By beat and cell, and by cell alone: the last trial that has a point there. */
    private static final int[] TAKEN_BY = new int[LINE * LINE * LINE];
    private static final int[] CELL_BY = new int[LINE * LINE];

    private final int[] size;
    private final List<int[]> steps = new ArrayList<>();
    private final PulseBoard board = new PulseBoard();

    private SearchTest(int i, int j, int k) {
        size = new int[] {i, j, k};
        board.sizes(i, j, k);
    }

    public static void main(String[] args) {
        Random random = new Random(13);
        for (int n = 0; n < 512; n++) {
            SearchTest plain = new SearchTest(1 + n / 64, 1 + n / 8 % 8, 1 + n % 8);
            plain.compareAll();
            SearchTest told = new SearchTest(1 + n / 64, 1 + n / 8 % 8, 1 + n % 8);
            told.tellVariables(random);
            told.compareAll();
        }
        System.out.println(wrong == 0 ? searches + " searches agree" : wrong + " searches differ");
        if (wrong != 0) System.exit(1);
    }

    /** Mostly steps to a neighbour: with long ones few layings are right. */
    private void tellVariables(Random random) {
        for (int n = 1 + random.nextInt(4); n > 0; n--) {
            int far = random.nextInt(4) == 0 ? 2 : 1;
            int[] step = {random.nextInt(far + 1), random.nextInt(far + 1), random.nextInt(2 * far + 1) - far};
            if (board.variable(step[0], step[1], step[2]) != PulseBoard.NONE) steps.add(step);
        }
    }

    private void compareAll() {
        compare(1, 1);
        compare(2, 1);
        compare(1, 2);
    }

    private void compare(int b, int lines) {
        searches++;
        int[] was = numbers();
        int[] want = best(b, lines);
        int got = board.best(b, lines);
        boolean same = want == null ? got == PulseBoard.NONE : got == want[9];
        int[] now = numbers();
        for (int n = 0; n < 9; n++) same &= now[n] == (want == null ? was[n] : want[n]);
        if (!same) fail("best(" + b + ", " + lines + ") answered " + got + " with " + Arrays.toString(now), want);
    }

    private void fail(String what, int[] want) {
        wrong++;
        // A fault of the search is seen on many sizes; some of them are enough.
        if (wrong > 9) return;
        System.out.println("promise 13: sizes " + Arrays.toString(size) + ", steps " + Arrays.deepToString(steps.toArray()) + ": "
                + what + ", due is " + (want == null ? "NONE" : want[9] + " with " + Arrays.toString(Arrays.copyOf(want, 9))));
    }

    private int[] numbers() {
        int[] all = new int[9];
        for (int n = 0; n < 9; n++) all[n] = board.laying(n / 3, n % 3);
        return all;
    }

    /** The numbers of the best laying, its beats and its cells; null if none is right. */
    private int[] best(int b, int lines) {
        int side = 2 * b + 1;
        int[][] vector = new int[side * side * side][];
        int[][] placed = new int[vector.length][];
        for (int n = 0; n < vector.length; n++) {
            vector[n] = new int[] {n / (side * side) - b, n / side % side - b, n % side - b};
            placed[n] = places(vector[n]);
        }
        int zeros = vector.length / 2;
        int[] best = null;
        for (int t = 0; t < vector.length; t++) {
            int beats = greatest(placed[t]) + 1;
            if (best != null && beats > best[9] || !hasDelays(vector[t])) continue;
            for (int n = 0; n < vector.length * vector.length; n++) {
                int f = n / vector.length;
                int s = n % vector.length;
                if (f == zeros || (s == zeros) != (lines == 1) || !hasWays(vector[t], vector[f], vector[s])) continue;
                int cells = cells(placed[t], placed[f], placed[s]);
                boolean fewer = best == null || beats < best[9] || cells < best[10];
                if (cells != 0 && fewer) best = row(vector[t], vector[f], vector[s], beats, cells);
            }
        }
        return best;
    }

    private static int[] row(int[] time, int[] first, int[] second, int beats, int cells) {
        return new int[] {time[0], time[1], time[2], first[0], first[1], first[2], second[0], second[1], second[2], beats, cells};
    }

    private static int times(int[] a, int[] b) {
        return a[0] * b[0] + a[1] * b[1] + a[2] * b[2];
    }

    private boolean isNeeded(int[] step) {
        for (int d = 0; d < 3; d++) {
            if (Math.abs(step[d]) > size[d] - 1) return false;
        }
        return true;
    }

    private boolean hasDelays(int[] time) {
        for (int[] step : steps) {
            if (isNeeded(step) && times(time, step) < 1) return false;
        }
        return true;
    }

    private boolean hasWays(int[] time, int[] first, int[] second) {
        for (int[] step : steps) {
            int way = Math.abs(times(first, step)) + Math.abs(times(second, step));
            if (isNeeded(step) && way > times(time, step)) return false;
        }
        return true;
    }

    /** Where a vector puts each point, by rank. */
    private int[] places(int[] vector) {
        int[] all = new int[size[0] * size[1] * size[2]];
        int least = 0;
        for (int n = 0; n < all.length; n++) {
            int[] p = {n / (size[1] * size[2]), n / size[2] % size[1], n % size[2]};
            all[n] = times(vector, p);
            least = Math.min(least, all[n]);
        }
        for (int n = 0; n < all.length; n++) all[n] -= least;
        return all;
    }

    private static int greatest(int[] all) {
        int greatest = 0;
        for (int a : all) greatest = Math.max(greatest, a);
        return greatest;
    }

    /** How many cells have points; 0 if two points have one beat and cell. */
    private static int cells(int[] beat, int[] first, int[] second) {
        trials++;
        int cells = 0;
        for (int n = 0; n < beat.length; n++) {
            int cell = first[n] * LINE + second[n];
            int place = beat[n] * LINE * LINE + cell;
            if (TAKEN_BY[place] == trials) return 0;
            TAKEN_BY[place] = trials;
            if (CELL_BY[cell] != trials) cells++;
            CELL_BY[cell] = trials;
        }
        return cells;
    }
}
