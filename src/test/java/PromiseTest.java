/** Answers worked out by hand, promise by promise: ordinary calls, edges and wrong arguments. */
public final class PromiseTest {
    private static final int LOW = Integer.MIN_VALUE;
    private static final int HIGH = Integer.MAX_VALUE;
    private static int wrong = 0;

    private static void due(int promise, String call, long got, long want) {
        if (got != want) {
            wrong++;
            System.out.println("promise " + promise + ": " + call + " answered " + got + ", due is " + want);
        }
    }

    private static void due(int promise, String call, boolean got, boolean want) {
        due(promise, call, got ? 1L : 0L, want ? 1L : 0L);
    }

    public static void main(String[] args) {
        newObject();
        sizes();
        variable();
        acts();
        actRefused();
        edge();
        clear();
        lay();
        fold();
        why();
        whyMeet();
        laid();
        laidFolded();
        where();
        needs();
        best();
        bestRefused();
        bestWithFold();
        run();
        runEnds();
        runStays();
        worked();
        held();
        value();
        plain();
        result();
        about();
        System.out.println(wrong == 0 ? "all promises hold" : wrong + " answers are not as due");
        if (wrong != 0) System.exit(1);
    }

    /** One loop of n points, k = 0 .. n - 1, with one variable that goes on by a step. */
    private static PulseBoard loop(int n, int step) {
        PulseBoard x = new PulseBoard();
        x.sizes(1, 1, n);
        x.variable(0, 0, step);
        return x;
    }

    /** A product of two 2 x 2 matrices, as the first shared run has it, on a grid of cells. */
    private static PulseBoard product() {
        PulseBoard x = new PulseBoard();
        x.sizes(2, 2, 2);
        x.variable(0, 1, 0);
        x.variable(1, 0, 0);
        x.variable(0, 0, 1);
        x.act(2, 1, 0, 1);
        x.lay(2, 0, 1, 0);
        return x;
    }

    private static void newObject() {
        PulseBoard x = new PulseBoard();
        due(1, "NONE", PulseBoard.NONE, -1);
        int[] laying = {1, 1, 1, 1, 0, 0, 0, 0, 0};
        for (int n = 0; n < 9; n++) due(1, "laying " + n, x.laying(n / 3, n % 3), laying[n]);
        for (int n = 10; n < 13; n++) due(1, "size " + n, x.about(n), 1);
        due(1, "about(0)", x.about(0), 0);
        due(1, "about(2)", x.about(2), 0);
        due(1, "about(3)", x.about(3), 1);
        due(1, "why(0)", x.why(0), 0);
        due(1, "held(0)", x.held(0), -1);
        due(1, "worked(0, 0, 0)", x.worked(0, 0, 0), -1);
        due(1, "run()", x.run(), 1);
        due(1, "worked(0, 0, 0) of a run", x.worked(0, 0, 0), 0);
    }

    private static void sizes() {
        PulseBoard x = new PulseBoard();
        due(2, "sizes(8, 1, 3)", x.sizes(8, 1, 3), true);
        due(2, "about(10)", x.about(10), 8);
        due(2, "about(11)", x.about(11), 1);
        due(2, "about(12)", x.about(12), 3);
        x.variable(0, 0, 1);
        x.edge(0, 7, 0, 0, 5);
        int[][] bad = {{0, 1, 1}, {1, 0, 1}, {1, 1, 0}, {9, 1, 1}, {1, 9, 1}, {1, 1, 9}, {LOW, 1, 1}, {1, HIGH, 1}};
        for (int[] b : bad) due(2, "bad sizes", x.sizes(b[0], b[1], b[2]), false);
        due(2, "about(1) as before", x.about(1), 24);
        due(2, "edge as before", x.plain(0, 7, 0, 2), 5);
        due(2, "the same sizes", x.sizes(8, 1, 3), true);
        due(2, "edge 0 again", x.plain(0, 7, 0, 2), 0);
        due(2, "variables stay", x.about(0), 1);
        x.sizes(8, 8, 8);
        due(2, "about(1) of 8, 8, 8", x.about(1), 512);
        x.sizes(1, 1, 1);
        due(2, "no point any more", x.where(0, 0, 1, 0), -1);
    }

    private static void variable() {
        PulseBoard x = new PulseBoard();
        int[][] bad = {{0, 0, 0}, {-1, 1, 1}, {0, -1, 2}, {0, 0, -1}, {3, 0, 0}, {1, 3, 0}, {1, 0, -3}, {LOW, 0, 1}, {1, HIGH, 0}};
        for (int[] b : bad) due(3, "bad step", x.variable(b[0], b[1], b[2]), -1);
        due(3, "about(0)", x.about(0), 0);
        due(3, "variable(2, -2, -2)", x.variable(2, -2, -2), 0);
        due(3, "variable(0, 2, -2)", x.variable(0, 2, -2), 1);
        due(3, "variable(0, 0, 2)", x.variable(0, 0, 2), 2);
        due(3, "variable(0, 0, 2) again", x.variable(0, 0, 2), 3);
        due(3, "a fifth", x.variable(1, 0, 0), -1);
        due(3, "about(0) of four", x.about(0), 4);
        PulseBoard y = loop(3, 1);
        y.edge(0, 0, 0, 0, 7);
        due(3, "act 0 goes on", y.plain(0, 0, 0, 2), 7);
        y.act(0, 5, 0, 0);
        y.clear();
        y.variable(0, 0, 1);
        y.edge(0, 0, 0, 0, 7);
        due(3, "act 0 anew", y.plain(0, 0, 0, 2), 7);
    }

    private static void acts() {
        PulseBoard x = new PulseBoard();
        x.variable(0, 0, 1);
        x.variable(0, 0, 1);
        x.variable(0, 0, 1);
        x.edge(0, 0, 0, 0, 12);
        x.edge(1, 0, 0, 0, 10);
        x.edge(2, 0, 0, 0, 100);
        int[] made = {100, 220, 22, 10, 12, 22, 2, 6};
        for (int act = 0; act < 8; act++) {
            due(4, "act(2, " + act + ", 0, 1)", x.act(2, act, 0, 1), true);
            due(4, "value of act " + act, x.plain(2, 0, 0, 0), made[act]);
        }
        x.edge(2, 0, 0, 0, 21);
        x.act(2, 2, 0, 1);
        due(4, "lesser is v", x.plain(2, 0, 0, 0), 21);
        x.edge(0, 0, 0, 0, HIGH);
        x.edge(1, 0, 0, 0, 1);
        due(4, "lesser is a sum beyond 32 bits", x.plain(2, 0, 0, 0), LOW);
        x.edge(0, 0, 0, 0, LOW);
        x.act(2, 6, 0, 1);
        due(4, "a - b beyond 32 bits", x.plain(2, 0, 0, 0), HIGH);
        x.edge(0, 0, 0, 0, 65536);
        x.act(2, 1, 0, 0);
        due(4, "a * a beyond 32 bits", x.plain(2, 0, 0, 0), 21);
        x.act(0, 5, 1, 1);
        due(4, "by what comes, not by what is made", x.plain(2, 0, 0, 0), 21);
        x.act(1, 5, 1, 1);
        due(4, "of itself", x.plain(1, 0, 0, 0), 2);
    }

    private static void actRefused() {
        PulseBoard x = new PulseBoard();
        due(4, "no variables", x.act(0, 0, 0, 0), false);
        x.variable(0, 0, 1);
        x.variable(0, 0, 1);
        x.edge(0, 0, 0, 0, 3);
        due(4, "act(1, 5, 0, 0)", x.act(1, 5, 0, 0), true);
        int[][] bad = {{2, 0, 0, 0}, {-1, 0, 0, 0}, {1, 8, 0, 0}, {1, -1, 0, 0}, {1, 0, 2, 0}, {1, 0, 0, 2},
            {1, 0, -1, 0}, {1, 0, 0, -1}, {HIGH, 0, 0, 0}, {1, 0, LOW, 0}};
        for (int[] b : bad) due(4, "bad act", x.act(b[0], b[1], b[2], b[3]), false);
        due(4, "act as before", x.plain(1, 0, 0, 0), 6);
    }

    private static void edge() {
        PulseBoard x = loop(3, 2);
        due(5, "edge(0, 0, 0, 1, -9)", x.edge(0, 0, 0, 1, -9), true);
        due(5, "edge(0, 0, 0, 2, 4), not asked for", x.edge(0, 0, 0, 2, 4), true);
        due(5, "plain at 0", x.plain(0, 0, 0, 0), 0);
        due(5, "plain at 1", x.plain(0, 0, 0, 1), -9);
        due(5, "plain at 2", x.plain(0, 0, 0, 2), 0);
        due(5, "no such variable", x.edge(1, 0, 0, 0, 1), false);
        due(5, "no such variable", x.edge(-1, 0, 0, 0, 1), false);
        int[][] bad = {{1, 0, 0}, {0, 1, 0}, {0, 0, 3}, {-1, 0, 0}, {0, -1, 0}, {0, 0, -1}, {HIGH, 0, 0}, {0, LOW, 0}};
        for (int[] b : bad) due(5, "no such point", x.edge(0, b[0], b[1], b[2], 1), false);
        x.edge(0, 0, 0, 1, HIGH);
        due(5, "told again", x.plain(0, 0, 0, 1), HIGH);
    }

    private static void clear() {
        PulseBoard x = loop(3, 1);
        x.edge(0, 0, 0, 0, 8);
        x.lay(0, 0, 0, 2);
        x.fold(3);
        x.clear();
        due(6, "about(0)", x.about(0), 0);
        due(6, "about(12)", x.about(12), 3);
        due(6, "laying(0, 2)", x.laying(0, 2), 2);
        due(6, "about(3)", x.about(3), 3);
        due(6, "plain", x.plain(0, 0, 0, 0), 0);
        due(6, "variable", x.variable(0, 0, 1), 0);
        due(6, "edge 0 again", x.plain(0, 0, 0, 0), 0);
    }

    private static void lay() {
        PulseBoard x = new PulseBoard();
        due(7, "lay(0, -3, 3, 0)", x.lay(0, -3, 3, 0), true);
        due(7, "lay(1, 0, 0, -3)", x.lay(1, 0, 0, -3), true);
        due(7, "lay(2, 3, -3, 1)", x.lay(2, 3, -3, 1), true);
        int[][] bad = {{0, 4, 0, 0}, {0, 0, -4, 0}, {1, 0, 0, 4}, {1, 0, 0, 0}, {2, -4, 0, 0}, {3, 1, 0, 0}, {-1, 1, 0, 0},
            {HIGH, 1, 0, 0}, {0, LOW, 0, 0}, {0, 0, HIGH, 0}};
        for (int[] b : bad) due(7, "bad lay", x.lay(b[0], b[1], b[2], b[3]), false);
        int[] laying = {-3, 3, 0, 0, 0, -3, 3, -3, 1};
        for (int n = 0; n < 9; n++) due(14, "laying " + n, x.laying(n / 3, n % 3), laying[n]);
        due(7, "no second line", x.lay(2, 0, 0, 0), true);
        due(7, "time of zeros", x.lay(0, 0, 0, 0), true);
        due(14, "laying(2, 0)", x.laying(2, 0), 0);
        int[][] none = {{3, 0}, {-1, 0}, {0, 3}, {0, -1}, {HIGH, HIGH}, {LOW, LOW}, {1, HIGH}};
        for (int[] b : none) due(14, "no such number", x.laying(b[0], b[1]), -1000);
    }

    private static void fold() {
        PulseBoard x = new PulseBoard();
        for (int f = 1; f <= 8; f++) {
            due(8, "fold(" + f + ")", x.fold(f), true);
            due(8, "about(3)", x.about(3), f);
        }
        int[] bad = {0, 9, -1, LOW, HIGH};
        for (int f : bad) due(8, "fold(" + f + ")", x.fold(f), false);
        due(8, "about(3) as before", x.about(3), 8);
    }

    private static void why() {
        PulseBoard x = new PulseBoard();
        x.sizes(3, 3, 1);
        x.variable(1, 0, 0);
        x.variable(0, 1, 0);
        x.variable(0, 1, 0);
        x.lay(0, 1, 0, 0);
        x.lay(1, 2, 1, 0);
        due(9, "a delay below 1 ahead of a way", x.why(0), 1);
        due(9, "the least such variable", x.why(1), 1);
        due(9, "no earlier point", x.why(2), -1);
        x.lay(0, 2, 1, 0);
        due(9, "a way as long as the delay, two points meet", x.why(0), 3);
        x.lay(1, 0, 2, 0);
        due(9, "a way above the delay", x.why(0), 2);
        due(9, "the least such variable", x.why(1), 1);
        due(9, "no earlier point", x.why(2), -1);
        x.lay(1, 0, 1, 0);
        x.lay(2, 0, -1, 0);
        due(9, "ways of both lines", x.why(0), 2);
        x.lay(2, 0, 0, 0);
        due(9, "it is right", x.why(0), 0);
        due(9, "why(1)", x.why(1), -1);
        due(9, "why(2)", x.why(2), -1);
        due(9, "why(3)", x.why(3), -1);
        due(9, "why(-1)", x.why(-1), -1);
        x.lay(0, 2, -1, 0);
        due(9, "a delay of -1", x.why(0), 1);
        x.sizes(3, 1, 1);
        due(9, "variables that aren't needed", x.why(0), 0);
        x.sizes(3, 1, 2);
        x.variable(0, 0, 2);
        x.lay(2, 0, 0, 1);
        due(9, "a step too long for the loop", x.why(0), 0);
    }

    private static void whyMeet() {
        PulseBoard x = new PulseBoard();
        x.sizes(1, 2, 2);
        due(9, "two points meet", x.why(0), 3);
        due(9, "the later", x.why(1), 8);
        due(9, "the earlier", x.why(2), 1);
        x.fold(5);
        due(9, "they meet with a fold", x.why(0), 3);
        x.lay(0, 0, 0, 0);
        due(9, "the least later", x.why(1), 1);
        due(9, "its earlier", x.why(2), 0);
        x.lay(0, 0, 1, 2);
        due(9, "parted by time", x.why(0), 0);
        x.lay(0, 0, 0, 0);
        x.lay(1, 0, 1, 0);
        x.lay(2, 0, 0, 3);
        due(9, "parted by two lines", x.why(0), 0);
        x.sizes(2, 1, 3);
        x.lay(0, 1, 1, 2);
        x.lay(1, 0, 1, 0);
        x.lay(2, 0, 0, 0);
        due(9, "a time of 1, 2 parts two in a row", x.why(0), 0);
        x.sizes(3, 1, 3);
        due(9, "but not three", x.why(0), 3);
        due(9, "the later of three", x.why(1), 128);
        due(9, "the earlier of three", x.why(2), 1);
    }

    private static void laid() {
        PulseBoard x = new PulseBoard();
        x.sizes(2, 2, 1);
        x.lay(0, -2, 3, 0);
        x.lay(1, 1, 1, 0);
        due(10, "BEATS", x.laid(0), 6);
        due(10, "CELLS", x.laid(1), 3);
        due(10, "USE, cut", x.laid(2), 222);
        due(10, "APART, the cell of two has them 5 beats apart", x.laid(3), 2);
        x.lay(2, 1, 0, 0);
        due(10, "CELLS of two lines", x.laid(1), 4);
        due(10, "APART, no cell has two", x.laid(3), 1);
        due(10, "laid(4)", x.laid(4), -1);
        due(10, "laid(-1)", x.laid(-1), -1);
        x.lay(0, 1, 1, 0);
        x.lay(1, 1, 1, 0);
        x.lay(2, 0, 0, 0);
        due(10, "APART if two meet", x.laid(3), -1);
        due(10, "USE if two meet", x.laid(2), 444);
        PulseBoard y = loop(4, 1);
        y.lay(0, 0, 0, -1);
        due(10, "why(0)", y.why(0), 1);
        due(10, "BEATS of a wrong one", y.laid(0), 4);
        due(10, "APART of a wrong one", y.laid(3), 4);
        y.lay(0, 0, 0, 3);
        due(10, "BEATS 3 apart", y.laid(0), 10);
        due(10, "APART, 3, 6 and 9 taken", y.laid(3), 4);
        y.sizes(1, 3, 1);
        y.lay(0, 0, 1, 0);
        due(10, "APART, 1 and 2 taken", y.laid(3), 3);
    }

    private static void laidFolded() {
        PulseBoard x = loop(4, 1);
        x.lay(0, 0, 0, 2);
        x.lay(1, 0, 0, 1);
        x.fold(2);
        // Beats 0, 5, 8, 13 in cells 0, 0, 1, 1.
        due(10, "BEATS folded", x.laid(0), 14);
        due(10, "CELLS folded", x.laid(1), 2);
        due(10, "USE folded", x.laid(2), 142);
        due(10, "APART folded", x.laid(3), 2);
        x.fold(4);
        // Beats 0, 9, 18, 27 in one cell.
        due(10, "BEATS folded by 4", x.laid(0), 28);
        due(10, "CELLS folded by 4", x.laid(1), 1);
        due(10, "APART folded by 4", x.laid(3), 4);
        PulseBoard y = new PulseBoard();
        y.sizes(8, 8, 8);
        y.lay(0, 3, 3, 3);
        y.lay(1, 3, 3, 3);
        y.fold(8);
        due(10, "the most BEATS", y.laid(0), 512);
        y.lay(1, 0, 0, 1);
        y.lay(2, 3, 3, 3);
        y.fold(1);
        due(10, "64 beats", y.laid(0), 64);
        due(10, "8 ways to 22 sums", y.laid(1), 8 * 15);
    }

    private static void where() {
        PulseBoard x = new PulseBoard();
        x.sizes(2, 3, 2);
        x.lay(0, 1, -2, 3);
        x.lay(1, -1, 2, 0);
        x.lay(2, 0, 0, -3);
        due(11, "BEAT", x.where(1, 0, 1, 0), 8);
        due(11, "CELL", x.where(1, 0, 1, 1), 0);
        due(11, "CELL by the second", x.where(1, 0, 1, 2), 0);
        due(11, "BEAT of 0, 2, 0", x.where(0, 2, 0, 0), 0);
        due(11, "CELL of 0, 2, 0", x.where(0, 2, 0, 1), 5);
        due(11, "CELL of 0, 2, 0 by the second", x.where(0, 2, 0, 2), 3);
        x.fold(3);
        due(11, "BEAT folded", x.where(0, 2, 0, 0), 2);
        due(11, "CELL folded", x.where(0, 2, 0, 1), 1);
        due(11, "CELL by the second isn't folded", x.where(0, 2, 0, 2), 3);
        x.lay(2, 0, 0, 0);
        due(11, "no second line", x.where(0, 2, 0, 2), 0);
        int[][] bad = {{2, 0, 0, 0}, {0, 3, 0, 0}, {0, 0, 2, 0}, {-1, 0, 0, 0}, {0, -1, 0, 0}, {0, 0, -1, 0},
            {0, 0, 0, 3}, {0, 0, 0, -1}, {HIGH, 0, 0, 0}, {0, 0, LOW, 0}, {0, 0, 0, HIGH}};
        for (int[] b : bad) due(11, "bad where", x.where(b[0], b[1], b[2], b[3]), -1);
    }

    private static void needs() {
        PulseBoard x = new PulseBoard();
        x.sizes(3, 2, 1);
        x.variable(2, -1, 0);
        x.variable(1, 0, 1);
        x.variable(0, 2, 0);
        x.lay(0, 1, 3, 2);
        x.lay(1, -3, 1, 0);
        x.lay(2, 1, 1, -1);
        int[][] want = {{-1, 8, 1}, {3, 3, 0}, {6, 4, 0}};
        for (int n = 0; n < 9; n++) due(12, "needs " + n, x.needs(n / 3, n % 3), want[n / 3][n % 3]);
        int[][] bad = {{3, 0}, {-1, 0}, {0, 3}, {0, -1}, {HIGH, 0}, {0, LOW}};
        for (int[] b : bad) due(12, "bad needs", x.needs(b[0], b[1]), -1000);
        x.sizes(3, 3, 1);
        due(12, "needed in a longer loop", x.needs(2, 2), 1);
    }

    private static void laying(int promise, PulseBoard x, int... want) {
        for (int n = 0; n < 9; n++) due(promise, "laying(" + n / 3 + ", " + n % 3 + ")", x.laying(n / 3, n % 3), want[n]);
    }

    private static void best() {
        PulseBoard x = new PulseBoard();
        x.sizes(4, 1, 1);
        x.variable(1, 0, 0);
        due(13, "best(1, 1)", x.best(1, 1), 4);
        laying(13, x, 1, -1, -1, 0, -1, -1, 0, 0, 0);
        due(13, "best(2, 1)", x.best(2, 1), 4);
        laying(13, x, 1, -2, -2, 0, -2, -2, 0, 0, 0);
        due(13, "best(1, 2)", x.best(1, 2), 4);
        laying(13, x, 1, -1, -1, 0, -1, -1, 0, -1, -1);
        due(13, "best(1, 1) takes the second line away", x.best(1, 1), 4);
        laying(13, x, 1, -1, -1, 0, -1, -1, 0, 0, 0);
        PulseBoard y = product();
        due(13, "best(1, 2) of a product", y.best(1, 2), 4);
        due(13, "why(0)", y.why(0), 0);
        // Each number of the loops can stand in one line alone, or a way would be above 1.
        due(13, "CELLS of two lines", y.laid(1), 4);
        laying(13, y, 1, 1, 1, -1, 0, 0, 0, -1, 0);
        PulseBoard z = new PulseBoard();
        due(13, "best(2, 1) of one point", z.best(2, 1), 1);
        laying(13, z, -2, -2, -2, -2, -2, -2, 0, 0, 0);
    }

    private static void bestRefused() {
        PulseBoard x = new PulseBoard();
        x.sizes(3, 3, 3);
        x.variable(1, -2, -2);
        x.variable(0, 1, 0);
        x.variable(0, 0, 1);
        x.lay(0, 3, 2, 1);
        due(13, "none is right", x.best(1, 1), -1);
        due(13, "none is right", x.best(2, 1), -1);
        due(13, "none is right", x.best(1, 2), -1);
        laying(13, x, 3, 2, 1, 1, 0, 0, 0, 0, 0);
        x.clear();
        due(13, "best(1, 1) of 27 points", x.best(1, 1), -1);
        int[][] bad = {{0, 1}, {3, 1}, {2, 2}, {1, 0}, {1, 3}, {-1, 1}, {HIGH, 1}, {1, LOW}, {LOW, HIGH}};
        for (int[] b : bad) due(13, "bad best", x.best(b[0], b[1]), -1);
        laying(13, x, 3, 2, 1, 1, 0, 0, 0, 0, 0);
        x.sizes(2, 1, 1);
        due(13, "with no variables space alone parts points", x.best(1, 1), 1);
        laying(13, x, 0, -1, -1, -1, -1, -1, 0, 0, 0);
    }

    /** The choice is made without fold (a reading, see NOTES.md); the answer is told by the fold. */
    private static void bestWithFold() {
        PulseBoard x = product();
        x.fold(2);
        // The last point has beat 3 and cell 1 of 0 .. 2 without fold: 2 * 3 + 1 with it.
        due(13, "best(1, 1) with a fold", x.best(1, 1), 8);
        laying(13, x, 1, 1, 1, -1, 0, 1, 0, 0, 0);
        due(13, "the fold stays", x.about(3), 2);
        due(13, "laid(0) is the same", x.laid(0), 8);
        due(13, "laid(1) is told by the fold", x.laid(1), 2);
        bestsByFold("one line of four", loop(4, 1), 1, 1, 4, 7, 10, 13, 16, 19, 22, 25);
        // With no variables space alone parts points: cells 0, 1, 2 at beat 0.
        PulseBoard y = new PulseBoard();
        y.sizes(1, 3, 1);
        bestsByFold("no variables", y, 1, 1, 1, 2, 3, 3, 3, 3, 3, 3);
        // The first line by its numbers has -2 then: cells 0, 2, 4.
        bestsByFold("no variables, numbers to 2", y, 2, 1, 1, 1, 3, 3, 5, 5, 5, 5);
        // The last point is in cell 0 of the first line.
        bestsByFold("two lines", product(), 1, 2, 4, 7, 10, 13, 16, 19, 22, 25);
    }

    /** What best answers by fold 1, 2 and so on, asked anew and asked again. */
    private static void bestsByFold(String what, PulseBoard x, int b, int lines, int... want) {
        for (int n = 0; n < want.length; n++) {
            x.fold(n + 1);
            due(13, what + ", fold " + (n + 1), x.best(b, lines), want[n]);
            due(13, what + ", fold " + (n + 1) + ", again", x.best(b, lines), want[n]);
            due(10, what + ", fold " + (n + 1) + ", laid(0)", x.laid(0), want[n]);
        }
    }

    private static void run() {
        PulseBoard x = product();
        due(15, "run()", x.run(), 8);
        due(15, "about(2)", x.about(2), 1);
        x.lay(1, 2, 0, 0);
        due(15, "run() of a wrong laying", x.run(), -1);
        due(15, "about(2)", x.about(2), 0);
        x.lay(1, 1, 0, 0);
        x.fold(8);
        due(15, "run() with a fold", x.run(), 8);
        x.clear();
        due(15, "run() without variables", x.run(), 8);
        x.sizes(8, 8, 8);
        due(15, "run() of all points", x.run(), 512);
    }

    private static void runEnds() {
        for (int n = 0; n < 9; n++) {
            PulseBoard x = product();
            x.run();
            switch (n) {
                case 0: x.sizes(2, 2, 2); break;
                case 1: x.variable(1, 1, 1); break;
                case 2: x.act(2, 2, 0, 1); break;
                case 3: x.edge(0, 0, 0, 0, 5); break;
                case 4: x.clear(); break;
                case 5: x.lay(0, 2, 2, 2); break;
                case 6: x.fold(2); break;
                case 7: x.best(1, 1); break;
                default: x.lay(2, 0, -1, 0); break;
            }
            due(16, "about(2) behind change " + n, x.about(2), 0);
            due(16, "worked(0, 0, 0) behind change " + n, x.worked(0, 0, 0), -1);
            due(17, "held(0) behind change " + n, x.held(0), -1);
            due(18, "value behind change " + n, x.value(2, 1, 1, 1), 0);
        }
    }

    private static void runStays() {
        PulseBoard x = product();
        x.edge(0, 0, 0, 1, 3);
        x.edge(1, 0, 0, 1, 4);
        x.run();
        x.sizes(0, 1, 1);
        x.variable(0, 0, 0);
        x.act(3, 0, 0, 0);
        x.edge(0, 2, 0, 0, 9);
        x.lay(1, 0, 0, 0);
        x.fold(0);
        x.best(2, 2);
        x.plain(2, 1, 1, 1);
        due(15, "about(2) behind refused calls", x.about(2), 1);
        due(18, "value behind refused calls", x.value(2, 0, 0, 1), 12);
        due(17, "held behind refused calls", x.held(0), 3);
        due(16, "worked behind refused calls", x.worked(3, 1, 1), 73);
    }

    private static void worked() {
        PulseBoard x = loop(4, 1);
        x.lay(0, 0, 0, 2);
        x.lay(1, 0, 0, -1);
        x.run();
        due(16, "worked(0, 3, 0)", x.worked(0, 3, 0), 0);
        due(16, "worked(2, 2, 0)", x.worked(2, 2, 0), 1);
        due(16, "worked(1, 2, 0)", x.worked(1, 2, 0), -1);
        due(16, "worked(2, 1, 0)", x.worked(2, 1, 0), -1);
        due(16, "worked(2, 2, 1)", x.worked(2, 2, 1), -1);
        due(16, "worked(6, 0, 0)", x.worked(6, 0, 0), 3);
        due(16, "worked(7, 0, 0)", x.worked(7, 0, 0), -1);
        due(16, "worked(-1, 0, 0)", x.worked(-1, 0, 0), -1);
        due(16, "worked(HIGH, HIGH, HIGH)", x.worked(HIGH, HIGH, HIGH), -1);
        due(16, "worked(LOW, LOW, LOW)", x.worked(LOW, LOW, LOW), -1);
        x.lay(1, 0, 0, 1);
        x.fold(2);
        x.run();
        due(16, "worked(5, 0, 0) folded", x.worked(5, 0, 0), 1);
        due(16, "worked(8, 1, 0) folded", x.worked(8, 1, 0), 2);
        due(16, "worked(13, 1, 0) folded", x.worked(13, 1, 0), 3);
        due(16, "worked(6, 0, 0) folded", x.worked(6, 0, 0), -1);
        due(16, "worked(14, 0, 0) folded", x.worked(14, 0, 0), -1);
    }

    private static void heldRow(String what, PulseBoard x, int... want) {
        x.run();
        for (int n = 0; n < want.length; n++) due(17, what + " held(" + n + ")", x.held(n), want[n]);
        due(17, what + " behind the last", x.held(want.length), -1);
        due(17, what + " held(-1)", x.held(-1), -1);
        due(17, what + " held(HIGH)", x.held(HIGH), -1);
        due(17, what + " held(LOW)", x.held(LOW), -1);
    }

    private static void held() {
        heldRow("step 1", loop(4, 1), 1, 1, 1, 0);
        heldRow("step 2", loop(4, 2), 1, 2, 1, 0);
        PulseBoard x = loop(4, 1);
        x.lay(0, 0, 0, 2);
        heldRow("delay 2", x, 1, 1, 1, 1, 1, 1, 0);
        x.variable(0, 0, 1);
        heldRow("two variables", x, 2, 2, 2, 2, 2, 2, 0);
        PulseBoard y = loop(3, 1);
        y.lay(0, 0, 0, 2);
        y.lay(1, 0, 0, 1);
        y.fold(2);
        // Beats 0, 5, 8.
        heldRow("folded", y, 1, 1, 1, 1, 1, 1, 1, 1, 0);
        y.clear();
        heldRow("no variables", y, 0, 0, 0, 0, 0, 0, 0, 0, 0);
        heldRow("one not needed", loop(2, 2), 0, 0);
    }

    private static void value() {
        PulseBoard x = product();
        int[] edges = {1, 2, 3, 4, 5, 6, 7, 8};
        for (int n = 0; n < 4; n++) {
            x.edge(0, n / 2, 0, n % 2, edges[n]);
            x.edge(1, 0, n % 2, n / 2, edges[n + 4]);
        }
        due(18, "without a run", x.value(2, 1, 1, 1), 0);
        x.run();
        due(18, "1 * 5 + 2 * 7", x.value(2, 0, 0, 1), 19);
        due(18, "3 * 6 + 4 * 8", x.value(2, 1, 1, 1), 50);
        due(18, "a value goes on", x.value(0, 1, 1, 1), 4);
        due(18, "no such variable", x.value(3, 0, 0, 0), 0);
        due(18, "no such variable", x.value(-1, 0, 0, 0), 0);
        due(18, "no such point", x.value(2, 2, 0, 0), 0);
        due(18, "no such point", x.value(2, 0, -1, 0), 0);
        due(18, "no such point", x.value(2, 0, 0, HIGH), 0);
        x.fold(2);
        due(18, "the run is gone", x.value(2, 1, 1, 1), 0);
        x.run();
        due(18, "folded", x.value(2, 1, 1, 1), 50);
    }

    private static void plain() {
        PulseBoard x = loop(5, 2);
        x.variable(0, 0, 1);
        x.act(0, 5, 0, 1);
        x.edge(0, 0, 0, 0, 1);
        x.edge(0, 0, 0, 1, 10);
        x.edge(1, 0, 0, 0, 100);
        int[] want = {101, 110, 201, 210, 301};
        for (int n = 0; n < 5; n++) due(19, "plain(0, 0, 0, " + n + ")", x.plain(0, 0, 0, n), want[n]);
        x.lay(0, 0, 0, -1);
        due(19, "of a wrong laying", x.plain(0, 0, 0, 4), 301);
        int[][] bad = {{2, 0, 0, 0}, {-1, 0, 0, 0}, {0, 1, 0, 0}, {0, 0, 1, 0}, {0, 0, 0, 5}, {0, 0, 0, -1}, {HIGH, 0, 0, 0}, {0, LOW, 0, 0}};
        for (int[] b : bad) due(19, "bad plain", x.plain(b[0], b[1], b[2], b[3]), 0);
        x.edge(1, 0, 0, 0, 200);
        due(19, "another edge", x.plain(0, 0, 0, 4), 601);
        x.act(0, 0, 0, 0);
        due(19, "another act", x.plain(0, 0, 0, 4), 1);
    }

    private static void result() {
        PulseBoard x = new PulseBoard();
        x.sizes(3, 2, 1);
        x.variable(1, -1, 0);
        x.edge(0, 0, 1, 0, 7);
        x.edge(0, 2, 1, 0, 9);
        // 0, 1, 0 goes on to 1, 0, 0, and 1, 1, 0 to 2, 0, 0.
        int[] points = {0, 64, 128, 136};
        int[] numbers = {0, 7, 0, 9};
        for (int n = 0; n < 4; n++) {
            due(20, "result(0, " + n + ", 0)", x.result(0, n, 0), points[n]);
            due(20, "result(0, " + n + ", 1)", x.result(0, n, 1), numbers[n]);
        }
        int[][] bad = {{0, 4, 0}, {0, 4, 1}, {0, -1, 0}, {0, -1, 1}, {1, 0, 0}, {-1, 0, 0}, {0, 0, 2}, {0, 0, -1},
            {0, HIGH, 0}, {HIGH, 0, 0}, {0, LOW, 1}, {0, 0, HIGH}};
        for (int[] b : bad) due(20, "bad result", x.result(b[0], b[1], b[2]), -1);
        x.sizes(1, 2, 1);
        due(20, "all points are results", x.result(0, 1, 0), 8);
        due(20, "no third", x.result(0, 2, 0), -1);
    }

    private static void about() {
        PulseBoard x = product();
        x.fold(4);
        x.sizes(2, 3, 4);
        int[] want = {3, 24, 0, 4};
        for (int n = 0; n < 4; n++) due(21, "about(" + n + ")", x.about(n), want[n]);
        for (int n = 10; n < 13; n++) due(21, "about(" + n + ")", x.about(n), n - 8);
        int[] bad = {-1, 4, 5, 9, 13, LOW, HIGH};
        for (int what : bad) due(21, "about(" + what + ")", x.about(what), -1);
    }
}
