import java.io.IOException;

/** Boundary cases of Terms III and of promises 15 to 18, a sentence each: the run. */
public final class RunBoundsTest {
    private static final int LOW = Bounds.LOW;
    private static final int HIGH = Bounds.HIGH;
    private static Bounds bounds;

    public static void main(String[] args) throws IOException {
        bounds = new Bounds();
        runLeastAndMost();
        runRefused();
        firstAndLastBeat();
        runEndsWithEachChange();
        runStaysBehindQuestions();
        workedEverywhere();
        workedRefused();
        heldToTheLast();
        heldOfTheLatest();
        heldTillTaken();
        heldRefused();
        valueAsWorked();
        valueWithoutOne();
        bounds.end();
    }

    private static PulseBoard line(int n, int time, int step) {
        PulseBoard x = new PulseBoard();
        x.sizes(1, 1, n);
        x.variable(0, 0, step);
        x.lay(0, 0, 0, time);
        return x;
    }

    private static void runLeastAndMost() {
        bounds.of(15, "The laying is run, if it is RIGHT: how many POINTS were worked.");
        PulseBoard x = new PulseBoard();
        bounds.due("one POINT, no variables", x.run(), 1);
        bounds.due("again", x.run(), 1);
        bounds.due("about(2)", x.about(2), 1);
        for (int v = 0; v < 4; v++) x.variable(1, 0, 0);
        bounds.due("one POINT, four variables", x.run(), 1);
        x.sizes(8, 8, 8);
        x.lay(2, 0, 1, 0);
        bounds.due("all POINTS", x.run(), 512);
        x.fold(8);
        bounds.due("all POINTS, folded", x.run(), 512);
        bounds.due("the last", x.worked(8 * 21 + 7, 0, 7), 511);
        x.clear();
        bounds.due("all POINTS, no variables", x.run(), 512);
    }

    private static void runRefused() {
        bounds.of(15, "NONE, and the latest run stays, if it isn't.");
        bounds.refused("two POINTS meet", -1, Boards.WRONG::make, PulseBoard::run);
        bounds.refused("a DELAY of 0", -1, () -> line(3, 0, 1), PulseBoard::run);
        bounds.refused("a WAY of 3", -1, RunBoundsTest::tooFar, PulseBoard::run);
        PulseBoard x = Boards.PRODUCT.make();
        x.lay(0, 1, 0, 1);
        bounds.due("run() behind a run", x.run(), -1);
        bounds.due("the run ended with its laying", x.about(2), 0);
        x.lay(0, 1, 1, 1);
        bounds.due("there is none as yet", x.about(2), 0);
        bounds.due("run() again", x.run(), 8);
    }

    private static PulseBoard tooFar() {
        PulseBoard x = line(3, 1, 1);
        x.lay(1, 0, 0, 3);
        return x;
    }

    private static void firstAndLastBeat() {
        bounds.of(15, "by BEATS from 0 on, to the last");
        PulseBoard x = line(8, -3, 1);
        x.clear();
        x.run();
        bounds.due("the first BEAT", x.worked(0, 0, 0), 7);
        bounds.due("the last BEAT", x.worked(21, 0, 0), 0);
        bounds.due("ahead of the first", x.worked(-1, 0, 0), -1);
        bounds.due("behind the last", x.worked(22, 0, 0), -1);
        bounds.due("held at the first", x.held(0), 0);
        bounds.due("held at the last", x.held(21), 0);
        bounds.due("held behind the last", x.held(22), -1);
        PulseBoard most = new PulseBoard();
        most.sizes(8, 8, 8);
        most.variable(1, 0, 0);
        most.lay(0, 3, 3, 3);
        most.lay(2, 0, 1, 0);
        most.fold(8);
        bounds.due("512 BEATS", most.laid(0), 512);
        bounds.due("all POINTS", most.run(), 512);
        bounds.due("the first of 512", most.worked(0, 0, 0), 0);
        bounds.due("the last of 512", most.worked(511, 0, 7), 511);
        bounds.due("behind the last of 512", most.worked(512, 0, 7), -1);
        bounds.due("held at the last of 512", most.held(511), 0);
        bounds.due("held ahead of the last of 512", most.held(510), 1);
        bounds.due("held behind the last of 512", most.held(512), -1);
    }

    private static void runEndsWithEachChange() {
        bounds.of(16, "(as long as sum, laying, FOLD stay; else none)");
        String[] what = {"sizes", "variable", "act", "edge", "clear", "lay(0, ..)", "lay(1, ..)", "lay(2, ..)", "fold", "best"};
        for (int n = 0; n < what.length; n++) {
            PulseBoard x = Boards.PRODUCT.make();
            bounds.due("a run ahead of " + what[n], x.about(2), 1);
            change(x, n);
            bounds.due("about(2) behind " + what[n], x.about(2), 0);
            for (int b = 0; b < 4; b++) bounds.due("held behind " + what[n], x.held(b), -1);
            for (int b = 0; b < 16; b++) bounds.due("worked behind " + what[n], x.worked(b / 4, b / 2 % 2, b % 2), -1);
            for (int p = 0; p < 24; p++) bounds.due("value behind " + what[n], x.value(p / 8, p / 4 % 2, p / 2 % 2, p % 2), 0);
            bounds.due("a new run", x.run() > 0, true);
            bounds.due("about(2) of it", x.about(2), 1);
        }
    }

    private static void change(PulseBoard x, int n) {
        switch (n) {
            case 0: x.sizes(2, 2, 1); break;
            case 1: x.variable(1, 1, 1); break;
            case 2: x.act(2, 5, 0, 1); break;
            case 3: x.edge(0, 0, 0, 0, -9); break;
            case 4: x.clear(); break;
            case 5: x.lay(0, 2, 2, 1); break;
            case 6: x.lay(1, -1, 0, 0); break;
            case 7: x.lay(2, 0, -1, 0); break;
            case 8: x.fold(2); break;
            default: x.best(1, 1); break;
        }
    }

    private static void runStaysBehindQuestions() {
        bounds.of(16, "Of the latest run");
        Boards[] run = {Boards.PRODUCT, Boards.FULL, Boards.EMPTY};
        for (Boards board : run) {
            PulseBoard x = board.make();
            Snapshot.of(x);
            bounds.due("all was asked of " + board, x.about(2), 1);
            bounds.due("run() again", x.run(), x.about(1));
            bounds.due("about(2)", x.about(2), 1);
        }
    }

    /** How many places round a board have worked a point. */
    private static int workedPlaces(PulseBoard x, int beats, int cells, int seconds) {
        int places = 0;
        for (int b = -1; b <= beats; b++) {
            for (int c = -1; c <= cells; c++) {
                for (int s = -1; s <= seconds; s++) places += x.worked(b, c, s) == -1 ? 0 : 1;
            }
        }
        return places;
    }

    private static void workedEverywhere() {
        bounds.of(16, "the POINT (64 i + 8 j + k) that a CELL (of both lines) worked at a BEAT. NONE without one.");
        bounds.due("PRODUCT", workedPlaces(Boards.PRODUCT.make(), 4, 2, 2), 8);
        // BEATS 0 .. 5 without FOLD, so 0 .. 11.
        bounds.due("FULL", workedPlaces(Boards.FULL.make(), 12, 2, 3), 12);
        bounds.due("EMPTY", workedPlaces(Boards.EMPTY.make(), 8, 2, 1), 6);
        bounds.due("WRONG", workedPlaces(Boards.WRONG.make(), 4, 2, 2), 0);
        bounds.due("NEW", workedPlaces(Boards.NEW.make(), 4, 2, 2), 0);
        PulseBoard x = Boards.PRODUCT.make();
        for (int n = 0; n < 8; n++) {
            int[] p = {n / 4, n / 2 % 2, n % 2};
            bounds.due("worked " + n, x.worked(p[0] + p[1] + p[2], p[0], p[1]), 64 * p[0] + 8 * p[1] + p[2]);
        }
        // With no second line a CELL is 0 by it.
        PulseBoard y = line(2, 1, 1);
        y.run();
        bounds.due("one line", y.worked(1, 0, 0), 1);
        bounds.due("one line, another second", y.worked(1, 0, 1), -1);
    }

    private static void workedRefused() {
        bounds.of(16, "NONE without one.");
        int[] bad = {-1, 64, 512, 513, LOW, HIGH};
        for (int b : bad) {
            bounds.refused("beat " + b, -1, x -> x.worked(b, 0, 0));
            bounds.refused("cell " + b, -1, x -> x.worked(0, b, 0));
            bounds.refused("second " + b, -1, x -> x.worked(0, 0, b));
        }
        bounds.refused("no run", -1, Boards.NEW::make, x -> x.worked(0, 0, 0));
        bounds.refused("no run", -1, Boards.WRONG::make, x -> x.worked(0, 0, 0));
    }

    private static void heldToTheLast() {
        bounds.of(17, "HELD at a BEAT (behind its work): VALUES of variables at POINTS p that were worked by then,"
                + " p + STEP being a POINT with a later BEAT.");
        Boards[] run = {Boards.PRODUCT, Boards.FULL, Boards.EMPTY};
        int[][][] steps = {{{0, 1, 0}, {1, 0, 0}, {0, 0, 1}}, {{1, 0, 0}, {0, 1, 0}, {0, 0, 1}, {1, -1, 1}}, {}};
        int[] beats = {4, 12, 8};
        int[][] sizes = {{2, 2, 2}, {2, 3, 2}, {1, 3, 2}};
        for (int n = 0; n < 3; n++) {
            PulseBoard x = run[n].make();
            int[] want = heldBy(x, steps[n], sizes[n], beats[n]);
            for (int b = 0; b < beats[n]; b++) bounds.due(run[n] + " held(" + b + ")", x.held(b), want[b]);
            bounds.due(run[n] + " at the last", x.held(x.laid(0) - 1), 0);
        }
    }

    private static int[] heldBy(PulseBoard x, int[][] steps, int[] size, int beats) {
        int[] held = new int[beats];
        for (int[] s : steps) {
            for (int n = 0; n < size[0] * size[1] * size[2]; n++) {
                int[] p = {n / (size[1] * size[2]), n / size[2] % size[1], n % size[2]};
                int from = x.where(p[0], p[1], p[2], 0);
                int to = x.where(p[0] + s[0], p[1] + s[1], p[2] + s[2], 0);
                for (int b = from; b < to; b++) held[b]++;
            }
        }
        return held;
    }

    private static void heldOfTheLatest() {
        bounds.of(17, "Of it: how many VALUES were HELD at a BEAT.");
        PulseBoard x = line(3, 3, 1);
        x.run();
        bounds.due("of the first run", x.held(5), 1);
        x.lay(0, 0, 0, 1);
        int[] want = {1, 1, 0};
        for (int n = 0; n < 2; n++) {
            x.run();
            for (int b = 0; b < 3; b++) bounds.due("of the next run, held(" + b + ")", x.held(b), want[b]);
            bounds.due("of the next run, no more", x.held(3), -1);
        }
    }

    private static void heldTillTaken() {
        bounds.of(17, "p + STEP being a POINT with a later BEAT");
        PulseBoard x = line(2, 1, 1);
        x.run();
        bounds.due("worked and on its way", x.held(0), 1);
        bounds.due("taken at its own BEAT", x.held(1), 0);
        PulseBoard y = line(2, 3, 1);
        y.run();
        int[] want = {1, 1, 1, 0};
        for (int b = 0; b < 4; b++) bounds.due("a DELAY of 3, held(" + b + ")", y.held(b), want[b]);
        PulseBoard z = line(2, 1, 2);
        z.run();
        for (int b = 0; b < 2; b++) bounds.due("p + STEP is none, held(" + b + ")", z.held(b), 0);
        PulseBoard all = new PulseBoard();
        all.sizes(8, 8, 8);
        for (int v = 0; v < 4; v++) all.variable(1, 0, 0);
        all.lay(0, 1, 0, 0);
        all.lay(1, 0, 1, 0);
        all.lay(2, 0, 0, 1);
        all.run();
        for (int b = 0; b < 8; b++) bounds.due("a sheet of four, held(" + b + ")", all.held(b), b == 7 ? 0 : 256);
    }

    private static void heldRefused() {
        bounds.of(17, "Of it: how many VALUES were HELD at a BEAT. NONE for others.");
        int[] bad = {-1, 12, 64, 512, 513, LOW, HIGH};
        for (int b : bad) bounds.refused("held(" + b + ")", -1, x -> x.held(b));
        bounds.refused("behind the last", -1, Boards.PRODUCT::make, x -> x.held(4));
        bounds.refused("behind the last, folded", -1, Boards.EMPTY::make, x -> x.held(8));
        bounds.refused("no run", -1, Boards.NEW::make, x -> x.held(0));
        bounds.refused("no run", -1, Boards.WRONG::make, x -> x.held(0));
        PulseBoard most = new PulseBoard();
        most.sizes(8, 1, 1);
        most.variable(1, 0, 0);
        most.lay(0, 3, 0, 0);
        most.lay(1, 3, 0, 0);
        most.fold(8);
        most.run();
        // The last is BEAT 21 and CELL 21: 8 * 21 + 5.
        bounds.due("the last", most.held(173), 0);
        bounds.due("behind it", most.held(174), -1);
        bounds.due("ahead of it", most.held(172), 1);
    }

    private static void valueAsWorked() {
        bounds.of(18, "VALUES are kept as they are worked.");
        PulseBoard x = Boards.FULL.make();
        int[] folds = {1, 2, 3, 8};
        for (int f : folds) {
            x.fold(f);
            x.run();
            for (int n = 0; n < 48; n++) {
                int[] p = {n / 6 % 2, n / 2 % 3, n % 2};
                bounds.due("value " + n + ", fold " + f, x.value(n / 12, p[0], p[1], p[2]), x.plain(n / 12, p[0], p[1], p[2]));
            }
        }
        PulseBoard y = Boards.PRODUCT.make();
        bounds.due("a number that isn't 0", y.value(1, 1, 1, 1) != 0, true);
    }

    private static void valueWithoutOne() {
        bounds.of(18, "Of it: a VALUE of a variable at a POINT. 0 without one.");
        int[] noVariable = {-1, 4, LOW, HIGH};
        for (int bad : noVariable) bounds.refused("variable " + bad, 0, x -> x.value(bad, 0, 0, 0));
        bounds.refused("variable 3", 0, Boards.PRODUCT::make, x -> x.value(3, 0, 0, 0));
        bounds.refused("variable 0 of none", 0, Boards.EMPTY::make, x -> x.value(0, 0, 0, 0));
        int[] noPlace = {-1, 3, 8, LOW, HIGH};
        for (int bad : noPlace) {
            bounds.refused("i " + bad, 0, x -> x.value(0, bad, 0, 0));
            bounds.refused("j " + bad, 0, x -> x.value(0, 0, bad, 0));
            bounds.refused("k " + bad, 0, x -> x.value(0, 0, 0, bad));
        }
        int[][] next = {{2, 1, 1}, {1, 2, 1}, {1, 1, 2}};
        for (int[] p : next) bounds.refused("the size itself", 0, Boards.PRODUCT::make, x -> x.value(1, p[0], p[1], p[2]));
        bounds.refused("no run", 0, Boards.WRONG::make, x -> x.value(1, 1, 1, 1));
        bounds.due("though there is one by PLAIN working", Boards.WRONG.make().plain(1, 1, 1, 1) != 0, true);
    }
}
