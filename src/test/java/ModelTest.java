import java.util.Random;

/** Long runs of calls, made by seeds, on the class and on PlainModel side by side. */
public final class ModelTest {
    private static final int RUNS = 1000;
    private static final int CALLS = 250;
    private static final int[] ODD = {Integer.MIN_VALUE, Integer.MAX_VALUE, -1, 9, 64, 512, 513, -1000};

    private final Random random;
    private final int most;
    private final PulseBoard board = new PulseBoard();
    private final PlainModel model = new PlainModel();
    private final StringBuilder told = new StringBuilder();
    private int searches;

    private ModelTest(int seed) {
        random = new Random(seed);
        // Few runs have large loops: the model is slow on them.
        most = seed % 50 == 49 ? 8 : 2 + seed % 4;
        searches = most == 8 ? 1 : 6;
    }

    public static void main(String[] args) {
        int wrong = 0;
        for (int seed = 0; seed < RUNS && wrong < 5; seed++) {
            ModelTest test = new ModelTest(seed);
            if (!test.runCalls()) {
                wrong++;
                System.out.println("seed " + seed + ": " + test.told + "\n  with " + test.model);
            }
        }
        System.out.println(wrong == 0 ? "the class and the model agree" : wrong + " runs differ");
        if (wrong != 0) System.exit(1);
    }

    private boolean runCalls() {
        boolean fine = same("sizes", size(), size(), size());
        for (int n = random.nextInt(5); n > 0 && fine; n--) fine = variable();
        for (int n = random.nextInt(20); n > 0 && fine; n--) fine = edge();
        for (int n = 0; n < CALLS && fine; n++) {
            fine = random.nextInt(6) == 0 ? change() : ask();
        }
        return fine;
    }

    /** A number of the range, now and then one outside. */
    private int number(int low, int high) {
        int odd = random.nextInt(150);
        if (odd == 0) return ODD[random.nextInt(ODD.length)];
        if (odd == 1) return low - 1;
        if (odd == 2) return high + 1;
        return low + random.nextInt(high - low + 1);
    }

    private int size() {
        return number(1, most);
    }

    private int at(int d) {
        return number(0, model.about(10 + d) - 1);
    }

    private int known() {
        return number(0, Math.max(0, model.about(0) - 1));
    }

    private boolean variable() {
        return same("variable", number(0, 2), number(-1, 2), number(-2, 2));
    }

    private boolean edge() {
        int value = random.nextInt(9) == 0 ? random.nextInt() : random.nextInt(100) - 50;
        return same("edge", known(), at(0), at(1), at(2), value);
    }

    private boolean change() {
        switch (random.nextInt(24)) {
            case 0:
                return same("sizes", size(), size(), size());
            case 1:
                return random.nextInt(4) == 0 ? same("clear") : variable();
            case 2: case 3:
                return variable();
            case 4: case 5: case 6:
                return same("act", known(), number(0, 7), known(), known());
            case 7: case 8: case 9: case 10: case 11: case 12:
                return edge();
            case 13: case 14:
                return same("lay", number(0, 2), number(-3, 3), number(-3, 3), number(-3, 3));
            case 15: case 16:
                return same("lay", 0, number(0, 3), number(0, 3), number(0, 3));
            case 17:
                return same("lay", 1, number(-1, 1), number(-1, 1), number(0, 1));
            case 18:
                return same("lay", 2, number(-1, 1), number(-1, 1), number(0, 1));
            case 19: case 20:
                return same("fold", number(1, 8));
            default:
                return searches-- > 0 ? same("best", number(1, 2), number(1, 2)) : same("laid", 3);
        }
    }

    private boolean ask() {
        switch (random.nextInt(16)) {
            case 0: case 1:
                return same("why", number(0, 2));
            case 2: case 3:
                return same("laid", number(0, 3));
            case 4:
                return same("where", at(0), at(1), at(2), number(0, 2));
            case 5:
                return same("needs", known(), number(0, 2));
            case 6:
                return same("laying", number(0, 2), number(0, 2));
            case 7: case 8:
                return same("run");
            case 9: case 10:
                return worked();
            case 11:
                return same("held", number(0, random.nextBoolean() ? 4 : model.laid(0)));
            case 12:
                return same("value", known(), at(0), at(1), at(2));
            case 13:
                return same("plain", known(), at(0), at(1), at(2));
            case 14:
                return same("result", known(), number(0, random.nextBoolean() ? 3 : model.about(1)), number(0, 1));
            default:
                return same("about", random.nextBoolean() ? number(0, 3) : number(10, 12));
        }
    }

    /** Often the place of a true point, so that there is something to find. */
    private boolean worked() {
        if (random.nextInt(4) == 0) return same("worked", number(0, 5), number(0, 3), number(0, 2));
        int i = at(0);
        int j = at(1);
        int k = at(2);
        return same("worked", model.where(i, j, k, 0), model.where(i, j, k, 1), model.where(i, j, k, 2));
    }

    private boolean same(String name, int... a) {
        told.append(name).append('(');
        for (int n = 0; n < a.length; n++) told.append(n == 0 ? "" : ", ").append(a[n]);
        told.append(") ");
        long got = ofBoard(name, a);
        long want = ofModel(name, a);
        if (got != want) told.append("answered ").append(got).append(", due is ").append(want);
        return got == want;
    }

    private static long flag(boolean answer) {
        return answer ? 1L : 0L;
    }

    private long ofBoard(String name, int[] a) {
        switch (name) {
            case "sizes": return flag(board.sizes(a[0], a[1], a[2]));
            case "variable": return board.variable(a[0], a[1], a[2]);
            case "act": return flag(board.act(a[0], a[1], a[2], a[3]));
            case "edge": return flag(board.edge(a[0], a[1], a[2], a[3], a[4]));
            case "clear": board.clear(); return 0;
            case "lay": return flag(board.lay(a[0], a[1], a[2], a[3]));
            case "fold": return flag(board.fold(a[0]));
            case "why": return board.why(a[0]);
            case "laid": return board.laid(a[0]);
            case "where": return board.where(a[0], a[1], a[2], a[3]);
            case "needs": return board.needs(a[0], a[1]);
            case "best": return board.best(a[0], a[1]);
            case "laying": return board.laying(a[0], a[1]);
            case "run": return board.run();
            case "worked": return board.worked(a[0], a[1], a[2]);
            case "held": return board.held(a[0]);
            case "value": return board.value(a[0], a[1], a[2], a[3]);
            case "plain": return board.plain(a[0], a[1], a[2], a[3]);
            case "result": return board.result(a[0], a[1], a[2]);
            default: return board.about(a[0]);
        }
    }

    private long ofModel(String name, int[] a) {
        switch (name) {
            case "sizes": return flag(model.sizes(a[0], a[1], a[2]));
            case "variable": return model.variable(a[0], a[1], a[2]);
            case "act": return flag(model.act(a[0], a[1], a[2], a[3]));
            case "edge": return flag(model.edge(a[0], a[1], a[2], a[3], a[4]));
            case "clear": model.clear(); return 0;
            case "lay": return flag(model.lay(a[0], a[1], a[2], a[3]));
            case "fold": return flag(model.fold(a[0]));
            case "why": return model.why(a[0]);
            case "laid": return model.laid(a[0]);
            case "where": return model.where(a[0], a[1], a[2], a[3]);
            case "needs": return model.needs(a[0], a[1]);
            case "best": return model.best(a[0], a[1]);
            case "laying": return model.laying(a[0], a[1]);
            case "run": return model.run();
            case "worked": return model.worked(a[0], a[1], a[2]);
            case "held": return model.held(a[0]);
            case "value": return model.value(a[0], a[1], a[2], a[3]);
            case "plain": return model.plain(a[0], a[1], a[2], a[3]);
            case "result": return model.result(a[0], a[1], a[2]);
            default: return model.about(a[0]);
        }
    }
}
