import java.util.Random;

/** Long runs of calls, made by seeds, on the class and on PlainModel side by side. */
public final class ModelTest {
    private static final int RUNS = 1500;
    private static final int CALLS = 250;
    private static final int[] ODD = {Integer.MIN_VALUE, Integer.MAX_VALUE, -1, 9, 64, 512, 513, -1000};

    private final Random random;
    private final int most;
    private final PulseBoard board = new PulseBoard();
    private final PlainModel model = new PlainModel();
    private final StringBuilder told = new StringBuilder();
    private String call = "";

    private ModelTest(long seed, int most) {
        this.random = new Random(seed);
        this.most = most;
    }

    public static void main(String[] args) {
        int wrong = 0;
        for (int seed = 0; seed < RUNS && wrong < 5; seed++) {
            // Few runs have large loops: the model's search is slow on them.
            int most = seed % 50 == 49 ? 8 : 2 + seed % 4;
            wrong += new ModelTest(seed, most).runCalls(seed) ? 0 : 1;
        }
        System.out.println(wrong == 0 ? "the class and the model agree" : wrong + " runs differ");
        if (wrong != 0) System.exit(1);
    }

    private boolean runCalls(int seed) {
        int searches = most == 8 ? 1 : 6;
        for (int n = 0; n < CALLS; n++) {
            int kind = random.nextInt(32);
            if (kind == 31 && searches-- <= 0) kind = 16;
            long got;
            long want;
            if (kind < 14) {
                long[] both = change(kind);
                got = both[0];
                want = both[1];
            } else {
                long[] both = ask(kind);
                got = both[0];
                want = both[1];
            }
            told.append(call).append(' ');
            if (got != want) {
                System.out.println("seed " + seed + ": " + call + " answered " + got + ", due is " + want);
                System.out.println("  " + told);
                System.out.println("  " + model);
                return false;
            }
        }
        return true;
    }

    private int number(int low, int high) {
        if (random.nextInt(60) == 0) return ODD[random.nextInt(ODD.length)];
        if (random.nextInt(40) == 0) return low - 1;
        if (random.nextInt(40) == 0) return high + 1;
        return low + random.nextInt(high - low + 1);
    }

    private long[] change(int kind) {
        int a = number(0, 3);
        int i = number(0, most - 1);
        int j = number(0, most - 1);
        int k = number(0, most - 1);
        switch (kind) {
            case 0:
                if (random.nextInt(3) != 0) return about(0);
                i = number(1, most);
                j = number(1, most);
                k = number(1, most);
                call = "sizes(" + i + ", " + j + ", " + k + ")";
                return both(board.sizes(i, j, k), model.sizes(i, j, k));
            case 1: case 2: case 3:
                i = number(0, 2);
                j = number(-1, 1);
                k = number(-2, 2);
                call = "variable(" + i + ", " + j + ", " + k + ")";
                return both(board.variable(i, j, k), model.variable(i, j, k));
            case 4: case 5:
                i = number(0, 7);
                j = number(0, 2);
                k = number(0, 2);
                call = "act(" + a + ", " + i + ", " + j + ", " + k + ")";
                return both(board.act(a, i, j, k), model.act(a, i, j, k));
            case 6: case 7: case 8:
                int value = random.nextInt(9) == 0 ? random.nextInt() : random.nextInt(100) - 50;
                call = "edge(" + a + ", " + i + ", " + j + ", " + k + ", " + value + ")";
                return both(board.edge(a, i, j, k, value), model.edge(a, i, j, k, value));
            case 9:
                if (random.nextInt(8) != 0) return about(2);
                call = "clear()";
                board.clear();
                model.clear();
                return both(0, 0);
            case 10: case 11: case 12:
                a = number(0, 2);
                int low = a == 0 && random.nextInt(3) != 0 ? 0 : -3;
                int high = random.nextInt(2) + 2;
                i = number(low, high);
                j = number(low, high);
                k = number(low, high);
                if (a != 0 && random.nextInt(2) == 0) i = 0;
                if (a != 0 && random.nextInt(2) == 0) j = 0;
                if (a == 2 && random.nextInt(2) == 0) k = 0;
                call = "lay(" + a + ", " + i + ", " + j + ", " + k + ")";
                return both(board.lay(a, i, j, k), model.lay(a, i, j, k));
            default:
                a = number(1, 8);
                call = "fold(" + a + ")";
                return both(board.fold(a), model.fold(a));
        }
    }

    private long[] about(int what) {
        call = "about(" + what + ")";
        return both(board.about(what), model.about(what));
    }

    private long[] ask(int kind) {
        int a = number(0, 2);
        int b = number(0, 2);
        int v = number(0, 3);
        int i = number(0, most - 1);
        int j = number(0, most - 1);
        int k = number(0, most - 1);
        switch (kind) {
            case 14: case 15:
                call = "why(" + a + ")";
                return both(board.why(a), model.why(a));
            case 16: case 17:
                a = number(0, 3);
                call = "laid(" + a + ")";
                return both(board.laid(a), model.laid(a));
            case 18:
                call = "where(" + i + ", " + j + ", " + k + ", " + a + ")";
                return both(board.where(i, j, k, a), model.where(i, j, k, a));
            case 19:
                call = "needs(" + v + ", " + a + ")";
                return both(board.needs(v, a), model.needs(v, a));
            case 20:
                call = "laying(" + a + ", " + b + ")";
                return both(board.laying(a, b), model.laying(a, b));
            case 21: case 22:
                call = "run()";
                return both(board.run(), model.run());
            case 23: case 24:
                return worked(i, j, k);
            case 25:
                a = number(0, 1 + random.nextInt(40));
                call = "held(" + a + ")";
                return both(board.held(a), model.held(a));
            case 26:
                call = "value(" + v + ", " + i + ", " + j + ", " + k + ")";
                return both(board.value(v, i, j, k), model.value(v, i, j, k));
            case 27: case 28:
                call = "plain(" + v + ", " + i + ", " + j + ", " + k + ")";
                return both(board.plain(v, i, j, k), model.plain(v, i, j, k));
            case 29:
                b = number(0, 1);
                call = "result(" + v + ", " + i + ", " + b + ")";
                return both(board.result(v, i, b), model.result(v, i, b));
            case 30:
                return about(random.nextBoolean() ? number(0, 3) : number(10, 12));
            default:
                a = number(1, 2);
                b = number(1, 2);
                call = "best(" + a + ", " + b + ")";
                return both(board.best(a, b), model.best(a, b));
        }
    }

    /** Often the place of a true point, so that there is something to find. */
    private long[] worked(int i, int j, int k) {
        int beat = number(0, 5);
        int cell = number(0, 3);
        int second = number(0, 2);
        if (random.nextInt(4) != 0) {
            beat = model.where(i, j, k, 0);
            cell = model.where(i, j, k, 1);
            second = model.where(i, j, k, 2);
        }
        call = "worked(" + beat + ", " + cell + ", " + second + ")";
        return both(board.worked(beat, cell, second), model.worked(beat, cell, second));
    }

    private static long[] both(long got, long want) {
        return new long[] {got, want};
    }

    private static long[] both(boolean got, boolean want) {
        return both(got ? 1L : 0L, want ? 1L : 0L);
    }
}
