import java.io.IOException;

/** Boundary cases of Terms I and of promises 1 to 6 and 19 to 21, a sentence each: the sum. */
public final class SumBoundsTest {
    private static final int LOW = Bounds.LOW;
    private static final int HIGH = Bounds.HIGH;
    private static final int[] NO_SIZE = {0, 9, -1, -8, 257, LOW, HIGH};
    private static Bounds bounds;

    public static void main(String[] args) throws IOException {
        bounds = new Bounds();
        newObject();
        sizesLeastAndMost();
        sizesRefused();
        sizesForgetEdges();
        pointsBelowSize();
        stepsLeastAndMost();
        firstOfStepAboveNone();
        variableNumbers();
        variableRefused();
        fifthVariable();
        actsAndTheirVariables();
        actRefused();
        actsBeyond32Bits();
        actsByWhatComes();
        comesFromOutside();
        comesNeverFromAnotherRow();
        edgeAtFirst();
        edgeRefused();
        clearFullAndEmpty();
        plainWithoutOne();
        plainByRank();
        rank();
        resultsAtTheEnd();
        resultRefused();
        aboutLeastAndMost();
        aboutRefused();
        bounds.end();
    }

    private static void newObject() {
        bounds.of(1, "SIZES 1, 1, 1; no variables; TIME 1, 1, 1; SPACE 1, 0, 0 and none; FOLD 1; no run.");
        PulseBoard x = new PulseBoard();
        for (int n = 10; n < 13; n++) bounds.due("about(" + n + ")", x.about(n), 1);
        bounds.due("about(0)", x.about(0), 0);
        bounds.due("about(1)", x.about(1), 1);
        bounds.laying("new", x, 1, 1, 1, 1, 0, 0, 0, 0, 0);
        bounds.due("about(3)", x.about(3), 1);
        bounds.due("about(2)", x.about(2), 0);
        bounds.due("worked(0, 0, 0)", x.worked(0, 0, 0), -1);
        bounds.due("held(0)", x.held(0), -1);
        bounds.due("needs(0, 0)", x.needs(0, 0), -1000);
    }

    private static void sizesLeastAndMost() {
        bounds.of(2, "three SIZES (1 .. 8)");
        PulseBoard x = new PulseBoard();
        for (int n = 0; n < 6; n++) {
            int[] s = {4, 4, 4};
            s[n / 2] = n % 2 == 0 ? 1 : 8;
            bounds.due("sizes " + n, x.sizes(s[0], s[1], s[2]), true);
            for (int d = 0; d < 3; d++) bounds.due("size " + d, x.about(10 + d), s[d]);
        }
        bounds.due("sizes(8, 8, 8)", x.sizes(8, 8, 8), true);
        bounds.due("the most points", x.about(1), 512);
        bounds.due("sizes(1, 1, 1)", x.sizes(1, 1, 1), true);
        bounds.due("the fewest points", x.about(1), 1);
    }

    private static void sizesRefused() {
        bounds.of(2, "False, changing nothing, for others.");
        for (int bad : NO_SIZE) {
            bounds.refused("sizes(" + bad + ", 1, 1)", 0, x -> Bounds.flag(x.sizes(bad, 1, 1)));
            bounds.refused("sizes(3, " + bad + ", 3)", 0, x -> Bounds.flag(x.sizes(3, bad, 3)));
            bounds.refused("sizes(8, 8, " + bad + ")", 0, x -> Bounds.flag(x.sizes(8, 8, bad)));
            bounds.refused("all " + bad, 0, x -> Bounds.flag(x.sizes(bad, bad, bad)));
        }
    }

    private static void sizesForgetEdges() {
        bounds.of(2, "SIZES; all EDGES are 0 again: true.");
        int[][] then = {{2, 2, 2}, {8, 8, 8}, {1, 1, 1}};
        for (int[] s : then) {
            PulseBoard x = new PulseBoard();
            x.sizes(2, 2, 2);
            // A step longer than the loop: each value is its edge.
            for (int v = 0; v < 4; v++) x.variable(2, 0, 0);
            for (int n = 0; n < 32; n++) x.edge(n / 8, n / 4 % 2, n / 2 % 2, n % 2, 5 + n);
            bounds.due("before", x.plain(3, 1, 1, 1), 36);
            bounds.due("sizes", x.sizes(s[0], s[1], s[2]), true);
            bounds.due("sizes as they were", x.sizes(2, 2, 2), true);
            for (int n = 0; n < 32; n++) bounds.due("edge " + n, x.plain(n / 8, n / 4 % 2, n / 2 % 2, n % 2), 0);
            bounds.due("the variables stay", x.about(0), 4);
        }
    }

    private static void pointsBelowSize() {
        bounds.of(2, "POINTS (i, j, k), each from 0 below its SIZE");
        int[][] all = {{1, 1, 1}, {8, 8, 8}, {2, 3, 4}};
        for (int[] s : all) {
            for (int i = -1; i <= s[0]; i++) {
                PulseBoard x = new PulseBoard();
                x.sizes(s[0], s[1], s[2]);
                for (int j = -1; j <= s[1]; j++) {
                    for (int k = -1; k <= s[2]; k++) {
                        boolean is = i >= 0 && i < s[0] && j >= 0 && j < s[1] && k >= 0 && k < s[2];
                        bounds.due("a point", x.where(i, j, k, 0) != -1, is);
                    }
                }
            }
        }
    }

    private static void stepsLeastAndMost() {
        bounds.of(3, "each with a STEP: three numbers -2 .. 2, the first of them that isn't 0 above 0");
        int taken = 0;
        for (int n = 0; n < 343; n++) {
            int[] s = {n / 49 - 3, n / 7 % 7 - 3, n % 7 - 3};
            boolean small = n / 49 % 6 > 0 && n / 7 % 7 % 6 > 0 && n % 7 % 6 > 0;
            boolean up = s[0] > 0 || s[0] == 0 && (s[1] > 0 || s[1] == 0 && s[2] > 0);
            int number = new PulseBoard().variable(s[0], s[1], s[2]);
            bounds.due("variable(" + s[0] + ", " + s[1] + ", " + s[2] + ")", number, small && up ? 0 : -1);
            taken += number == 0 ? 1 : 0;
        }
        bounds.due("all steps", taken, 62);
    }

    private static void firstOfStepAboveNone() {
        bounds.of(3, "the first of them that isn't 0 above 0");
        int[][] down = {{0, 0, 0}, {0, 0, -1}, {0, -1, 2}, {-1, 2, 2}, {0, -2, 0}, {-2, 0, 0}};
        for (int[] s : down) {
            String what = "variable(" + s[0] + ", " + s[1] + ", " + s[2] + ")";
            bounds.refused(what, -1, x -> x.variable(s[0], s[1], s[2]));
        }
        int[][] up = {{0, 0, 1}, {0, 1, -2}, {1, -2, -2}, {2, 0, -1}};
        PulseBoard x = new PulseBoard();
        for (int n = 0; n < 4; n++) bounds.due("up " + n, x.variable(up[n][0], up[n][1], up[n][2]), n);
    }

    private static void variableNumbers() {
        bounds.of(3, "One more variable with a STEP, ACT 0: its number.");
        PulseBoard x = Boards.FULL.make();
        x.clear();
        for (int v = 0; v < 4; v++) {
            bounds.due("about(0)", x.about(0), v);
            bounds.due("variable", x.variable(2, 0, 0), v);
            x.edge(v, 1, 2, 1, 10 + v);
        }
        for (int v = 0; v < 4; v++) bounds.due("ACT 0 of " + v, x.plain(v, 1, 2, 1), 10 + v);
    }

    private static void variableRefused() {
        bounds.of(3, "NONE for others, or if there are 4.");
        int[] bad = {3, -3, 4, LOW, HIGH};
        for (int b : bad) {
            bounds.refused("variable(" + b + ", 0, 0)", -1, x -> x.variable(b, 0, 0));
            bounds.refused("variable(1, " + b + ", 0)", -1, x -> x.variable(1, b, 0));
            bounds.refused("variable(0, 1, " + b + ")", -1, x -> x.variable(0, 1, b));
        }
    }

    private static void fifthVariable() {
        bounds.of(3, "VARIABLES 0 .. 3");
        bounds.refused("a fifth", -1, Boards.FULL::make, x -> x.variable(0, 0, 1));
        PulseBoard x = Boards.FULL.make();
        for (int n = 0; n < 5; n++) bounds.due("a fifth, again", x.variable(1, 1, 1), -1);
        bounds.due("about(0)", x.about(0), 4);
        x.clear();
        bounds.due("room again", x.variable(1, 1, 1), 0);
    }

    private static void actsAndTheirVariables() {
        bounds.of(4, "A variable's ACT (0 .. 7) and a, b: true.");
        for (int act = 0; act < 8; act++) {
            PulseBoard x = Boards.FULL.make();
            for (int n = 0; n < 64; n++) bounds.due("act " + act, x.act(n / 16, act, n / 4 % 4, n % 4), true);
        }
        PulseBoard one = new PulseBoard();
        one.variable(0, 0, 1);
        one.edge(0, 0, 0, 0, 12);
        int[] made = {12, 156, 12, 12, 12, 24, 0, 0};
        for (int act = 0; act < 8; act++) {
            bounds.due("of itself", one.act(0, act, 0, 0), true);
            bounds.due("made of itself", one.plain(0, 0, 0, 0), made[act]);
        }
    }

    private static void actRefused() {
        bounds.of(4, "False, changing nothing: no such variables, ACT.");
        int[] noAct = {-1, 8, 9, LOW, HIGH};
        for (int bad : noAct) bounds.refused("act(0, " + bad + ", 0, 0)", 0, x -> Bounds.flag(x.act(0, bad, 0, 0)));
        int[] noVariable = {-1, 4, 5, LOW, HIGH};
        for (int bad : noVariable) bounds.refused("no variable " + bad, 0, x -> actOf(x, bad, 0));
        bounds.refused("no variable 3", 0, Boards.PRODUCT::make, x -> actOf(x, 3, 0));
        bounds.refused("no variable 3", 0, Boards.WRONG::make, x -> actOf(x, 3, 0));
        // An act that uses neither a nor b asks for both all the same.
        int[][] missing = {{3, 0, 0}, {0, 3, 0}, {0, 0, 3}};
        for (int[] m : missing) {
            bounds.refused("act 0 of " + m[0] + m[1] + m[2], 0, Boards.PRODUCT::make, x -> Bounds.flag(x.act(m[0], 0, m[1], m[2])));
        }
        bounds.refused("the first of none", 0, Boards.NEW::make, x -> actOf(x, 0, 0));
        bounds.refused("the first of none", 0, Boards.EMPTY::make, x -> actOf(x, 0, 0));
    }

    /** How many of three acts are taken that name a variable as v, as a, as b. */
    private static long actOf(PulseBoard x, int missing, int there) {
        return Bounds.flag(x.act(missing, 7, there, there)) + Bounds.flag(x.act(there, 7, missing, there))
                + Bounds.flag(x.act(there, 7, there, missing));
    }

    /** What an act makes of what comes of v, a, b. */
    private static int made(int act, int own, int a, int b) {
        PulseBoard x = new PulseBoard();
        for (int v = 0; v < 3; v++) x.variable(0, 0, 1);
        x.edge(0, 0, 0, 0, own);
        x.edge(1, 0, 0, 0, a);
        x.edge(2, 0, 0, 0, b);
        x.act(0, act, 1, 2);
        x.run();
        bounds.due("run and plain working of act " + act, x.value(0, 0, 0, 0), x.plain(0, 0, 0, 0));
        return x.plain(0, 0, 0, 0);
    }

    private static void actsBeyond32Bits() {
        bounds.of(4, "(32 bits, Java's work): 0 v; 1 v + a * b; 2 the lesser of v and a + b; 3 the lesser of a and b;"
                + " 4 the greater of a and b; 5 a + b; 6 a - b; 7 a xor b.");
        int[][] rows = {
            {0, LOW, 1, 1, LOW}, {0, HIGH, 1, 1, HIGH},
            {1, HIGH, 1, 1, LOW}, {1, 7, 65536, 65536, 7}, {1, 0, LOW, -1, LOW}, {1, LOW, -1, 1, HIGH}, {1, 0, 65535, 65537, -1},
            {2, 5, HIGH, 1, LOW}, {2, LOW, 1, 0, LOW}, {2, HIGH, 0, -1, -1}, {2, HIGH, LOW, -1, HIGH}, {2, 3, 1, 2, 3},
            {3, 0, LOW, HIGH, LOW}, {3, 0, HIGH, LOW, LOW}, {3, LOW, 4, 4, 4}, {3, 0, -1, 0, -1},
            {4, 0, LOW, HIGH, HIGH}, {4, 0, HIGH, LOW, HIGH}, {4, HIGH, -4, -4, -4}, {4, 0, -1, 0, 0},
            {5, 1, HIGH, 1, LOW}, {5, 1, LOW, LOW, 0}, {5, 1, LOW, -1, HIGH}, {5, 1, HIGH, HIGH, -2},
            {6, 1, LOW, 1, HIGH}, {6, 1, 0, LOW, LOW}, {6, 1, HIGH, -1, LOW}, {6, 1, LOW, LOW, 0},
            {7, 1, HIGH, -1, LOW}, {7, 1, LOW, LOW, 0}, {7, 1, -1, 0, -1}, {7, 1, LOW, HIGH, -1},
        };
        for (int[] r : rows) {
            bounds.due("act " + r[0] + " of " + r[1] + ", " + r[2] + ", " + r[3], made(r[0], r[1], r[2], r[3]), r[4]);
        }
    }

    private static void actsByWhatComes() {
        bounds.of(4, "Its VALUE at p, by what COMES of v, a, b there");
        PulseBoard x = new PulseBoard();
        x.sizes(1, 1, 2);
        for (int v = 0; v < 2; v++) x.variable(0, 0, 1);
        x.edge(0, 0, 0, 0, 3);
        x.edge(1, 0, 0, 0, 10);
        x.act(0, 5, 0, 1);
        x.act(1, 5, 0, 1);
        // Both come as 3 and 10 and are made 13; then both come as 13. The order of variables is nothing.
        for (int v = 0; v < 2; v++) {
            bounds.due("first " + v, x.plain(v, 0, 0, 0), 13);
            bounds.due("then " + v, x.plain(v, 0, 0, 1), 26);
        }
    }

    private static int[] back(int[] p, int[] s) {
        return new int[] {p[0] - s[0], p[1] - s[1], p[2] - s[2]};
    }

    private static boolean isIn(int[] p, int[] size) {
        for (int d = 0; d < 3; d++) {
            if (p[d] < 0 || p[d] >= size[d]) return false;
        }
        return true;
    }

    /** With ACT 0 a value is the edge of the first point on its way. */
    private static void comesFrom(int[] size, int[] s) {
        PulseBoard x = new PulseBoard();
        x.sizes(size[0], size[1], size[2]);
        x.variable(s[0], s[1], s[2]);
        int points = size[0] * size[1] * size[2];
        for (int n = 0; n < points; n++) {
            x.edge(0, n / (size[1] * size[2]), n / size[2] % size[1], n % size[2], n + 1);
        }
        for (int n = 0; n < points; n++) {
            int[] p = {n / (size[1] * size[2]), n / size[2] % size[1], n % size[2]};
            int[] first = p;
            while (isIn(back(first, s), size)) first = back(first, s);
            int edge = (first[0] * size[1] + first[1]) * size[2] + first[2] + 1;
            bounds.due("step " + s[0] + s[1] + s[2] + " at " + p[0] + p[1] + p[2], x.plain(0, p[0], p[1], p[2]), edge);
        }
    }

    private static void comesFromOutside() {
        bounds.of(5, "What COMES of a variable v at a POINT p: its value of the POINT p - STEP, if that is one, else its EDGE there");
        int[][] sizes = {{1, 1, 1}, {2, 3, 2}, {3, 2, 4}, {4, 4, 4}};
        for (int[] size : sizes) {
            for (int n = 63; n < 125; n++) comesFrom(size, new int[] {n / 25 - 2, n / 5 % 5 - 2, n % 5 - 2});
        }
    }

    private static void comesNeverFromAnotherRow() {
        bounds.of(5, "if that is one, else its EDGE there");
        // Loops of eight: a point counted as 64 i + 8 j + k would go round to the next row.
        comesFrom(new int[] {1, 2, 8}, new int[] {0, 0, 1});
        comesFrom(new int[] {1, 2, 8}, new int[] {0, 1, -1});
        comesFrom(new int[] {2, 8, 1}, new int[] {0, 1, 0});
        comesFrom(new int[] {2, 8, 1}, new int[] {1, -1, 0});
        comesFrom(new int[] {2, 8, 8}, new int[] {1, -2, -2});
        comesFrom(new int[] {8, 1, 8}, new int[] {0, 0, 2});
    }

    private static void edgeAtFirst() {
        bounds.of(5, "(a told number, at first 0)");
        PulseBoard x = new PulseBoard();
        x.sizes(8, 8, 8);
        x.variable(2, 2, 2);
        int[] ends = {0, 7};
        for (int i : ends) {
            for (int j : ends) {
                bounds.due("at first", x.plain(0, i, j, 0), 0);
                int[] told = {LOW, HIGH, -1, 0};
                for (int value : told) {
                    bounds.due("edge", x.edge(0, i, j, 0, value), true);
                    bounds.due("told", x.plain(0, i, j, 0), value);
                }
            }
        }
        bounds.due("the last point", x.edge(0, 7, 7, 7, 4), true);
        bounds.due("takes no edge", x.plain(0, 7, 7, 7), 0);
    }

    private static void edgeRefused() {
        bounds.of(5, "False: no such variable, POINT.");
        int[] noVariable = {-1, 4, LOW, HIGH};
        for (int bad : noVariable) bounds.refused("variable " + bad, 0, x -> Bounds.flag(x.edge(bad, 0, 0, 0, 99)));
        bounds.refused("variable 3", 0, Boards.PRODUCT::make, x -> Bounds.flag(x.edge(3, 0, 0, 0, 99)));
        bounds.refused("variable 0 of none", 0, Boards.NEW::make, x -> Bounds.flag(x.edge(0, 0, 0, 0, 99)));
        bounds.refused("variable 0 of none", 0, Boards.EMPTY::make, x -> Bounds.flag(x.edge(0, 0, 0, 0, 99)));
        int[] noPlace = {-1, 3, 8, LOW, HIGH};
        for (int bad : noPlace) {
            bounds.refused("i " + bad, 0, x -> Bounds.flag(x.edge(0, bad, 0, 0, 99)));
            bounds.refused("j " + bad, 0, x -> Bounds.flag(x.edge(0, 0, bad, 0, 99)));
            bounds.refused("k " + bad, 0, x -> Bounds.flag(x.edge(0, 0, 0, bad, 99)));
        }
        int[][] next = {{2, 0, 0}, {0, 2, 0}, {0, 0, 2}};
        for (int[] p : next) {
            bounds.refused("the size itself", 0, Boards.PRODUCT::make, x -> Bounds.flag(x.edge(0, p[0], p[1], p[2], 99)));
        }
    }

    private static void clearFullAndEmpty() {
        bounds.of(6, "No variables, all EDGES 0 (SIZES, laying stay).");
        PulseBoard x = Boards.FULL.make();
        x.clear();
        bounds.due("about(0)", x.about(0), 0);
        bounds.due("needs", x.needs(0, 0), -1000);
        bounds.due("result", x.result(0, 0, 0), -1);
        bounds.due("plain", x.plain(0, 0, 0, 0), 0);
        int[] size = {2, 3, 2};
        for (int d = 0; d < 3; d++) bounds.due("size " + d, x.about(10 + d), size[d]);
        bounds.laying("as told", x, 2, 1, 1, 1, 0, 0, 0, 1, 0);
        bounds.due("the FOLD", x.about(3), 2);
        for (int v = 0; v < 4; v++) bounds.due("variable", x.variable(2, 0, 0), v);
        for (int n = 0; n < 48; n++) bounds.due("edge " + n, x.plain(n / 12, n / 6 % 2, n / 2 % 3, n % 2), 0);
        PulseBoard y = Boards.EMPTY.make();
        y.clear();
        y.clear();
        bounds.due("of none", y.about(0), 0);
        bounds.due("points of none", y.about(1), 6);
    }

    private static void plainWithoutOne() {
        bounds.of(19, "0 if there is none such.");
        int[] noVariable = {-1, 4, LOW, HIGH};
        for (int bad : noVariable) bounds.refused("variable " + bad, 0, x -> x.plain(bad, 0, 0, 0));
        bounds.refused("variable 3", 0, Boards.PRODUCT::make, x -> x.plain(3, 0, 0, 0));
        bounds.refused("variable 0 of none", 0, Boards.EMPTY::make, x -> x.plain(0, 0, 0, 0));
        int[] noPlace = {-1, 3, 8, LOW, HIGH};
        for (int bad : noPlace) {
            bounds.refused("i " + bad, 0, x -> x.plain(0, bad, 0, 0));
            bounds.refused("j " + bad, 0, x -> x.plain(0, 0, bad, 0));
            bounds.refused("k " + bad, 0, x -> x.plain(0, 0, 0, bad));
        }
        PulseBoard x = Boards.PRODUCT.make();
        bounds.due("there is one", x.plain(1, 1, 1, 1) != 0, true);
        int[][] next = {{2, 1, 1}, {1, 2, 1}, {1, 1, 2}};
        for (int[] p : next) bounds.due("the size itself", x.plain(1, p[0], p[1], p[2]), 0);
        x.sizes(2, 2, 1);
        x.edge(1, 0, 0, 0, 6);
        bounds.due("no point any more", x.plain(1, 1, 1, 1), 0);
        x.clear();
        bounds.due("no variable any more", x.plain(1, 0, 0, 0), 0);
    }

    private static void plainByRank() {
        bounds.of(19, "PLAIN working: POINTS by RANK.");
        PulseBoard x = Boards.FULL.make();
        int[] before = new int[48];
        for (int n = 0; n < 48; n++) before[n] = x.plain(n / 12, n / 6 % 2, n / 2 % 3, n % 2);
        x.lay(0, -1, -1, -1);
        x.fold(7);
        bounds.due("not RIGHT", x.why(0), 1);
        for (int n = 0; n < 48; n++) bounds.due("plain " + n, x.plain(n / 12, n / 6 % 2, n / 2 % 3, n % 2), before[n]);
    }

    private static void rank() {
        bounds.of(20, "their RANK: i, then j, then k, the lower first");
        PulseBoard x = new PulseBoard();
        x.sizes(2, 2, 2);
        x.variable(2, 0, 0);
        int[] codes = {0, 1, 8, 9, 64, 65, 72, 73};
        for (int n = 0; n < 8; n++) bounds.due("result " + n, x.result(0, n, 0), codes[n]);
        x.sizes(8, 8, 8);
        x.clear();
        x.variable(1, 0, 0);
        bounds.due("the last of 64", x.result(0, 63, 0), 511);
        bounds.due("the first of 64", x.result(0, 0, 0), 448);
    }

    private static void resultsAtTheEnd() {
        bounds.of(20, "A RESULT: a VALUE at a POINT p for which p + STEP is none.");
        int[] size = {2, 3, 2};
        for (int n = 63; n < 125; n++) {
            int[] on = {2 - n / 25, 2 - n / 5 % 5, 2 - n % 5};
            PulseBoard x = new PulseBoard();
            x.sizes(2, 3, 2);
            x.variable(-on[0], -on[1], -on[2]);
            for (int m = 0; m < 12; m++) x.edge(0, m / 6, m / 2 % 3, m % 2, m - 1);
            int results = 0;
            for (int m = 0; m < 12; m++) {
                int[] p = {m / 6, m / 2 % 3, m % 2};
                // One step on is one step back of the step turned round.
                if (isIn(back(p, on), size)) continue;
                bounds.due("its point", x.result(0, results, 0), 64 * p[0] + 8 * p[1] + p[2]);
                bounds.due("its number", x.result(0, results, 1), x.plain(0, p[0], p[1], p[2]));
                results++;
            }
            bounds.due("none behind the last", x.result(0, results, 0), -1);
        }
    }

    private static void resultRefused() {
        bounds.of(20, "NONE for no such variable, what, RESULT.");
        int[] bad = {-1, 4, LOW, HIGH};
        for (int b : bad) {
            bounds.refused("variable " + b, -1, x -> x.result(b, 0, 0));
            bounds.refused("number of variable " + b, -1, x -> x.result(b, 0, 1));
            bounds.refused("what " + b, -1, x -> x.result(0, 0, b));
        }
        bounds.refused("what 2", -1, x -> x.result(0, 0, 2));
        int[] none = {-1, 12, 512, LOW, HIGH};
        for (int n : none) {
            bounds.refused("result " + n, -1, x -> x.result(0, n, 0));
            bounds.refused("number of result " + n, -1, x -> x.result(0, n, 1));
        }
        bounds.refused("variable 3", -1, Boards.PRODUCT::make, x -> x.result(3, 0, 0));
        bounds.refused("the fifth of four", -1, Boards.PRODUCT::make, x -> x.result(2, 4, 0));
        bounds.refused("number of the fifth of four", -1, Boards.PRODUCT::make, x -> x.result(2, 4, 1));
        bounds.refused("of none", -1, Boards.NEW::make, x -> x.result(0, 0, 0));
        bounds.due("the fourth of four", Boards.PRODUCT.make().result(2, 3, 0), 73);
    }

    private static void aboutLeastAndMost() {
        bounds.of(21, "0 variables, 1 POINTS, 2 whether there is a run (1, 0), 3 the FOLD, 10 and on: SIZES.");
        int[] what = {0, 1, 2, 3, 10, 11, 12};
        int[] least = {0, 1, 0, 1, 1, 1, 1};
        int[] most = {4, 512, 1, 8, 8, 8, 8};
        PulseBoard x = new PulseBoard();
        for (int n = 0; n < 7; n++) bounds.due("about(" + what[n] + ")", x.about(what[n]), least[n]);
        x.sizes(8, 8, 8);
        for (int n = 0; n < 4; n++) x.variable(1, 0, 0);
        x.lay(2, 0, 1, 0);
        x.fold(8);
        x.run();
        for (int n = 0; n < 7; n++) bounds.due("about(" + what[n] + ")", x.about(what[n]), most[n]);
        x.sizes(2, 3, 4);
        for (int n = 0; n < 3; n++) bounds.due("about(" + (10 + n) + ")", x.about(10 + n), n + 2);
    }

    private static void aboutRefused() {
        bounds.of(21, "NONE for others.");
        int[] bad = {-1, 4, 5, 6, 7, 8, 9, 13, 14, LOW, HIGH};
        for (int b : bad) bounds.refused("about(" + b + ")", -1, x -> x.about(b));
    }
}
