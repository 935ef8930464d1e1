import java.io.IOException;
import java.util.HashSet;
import java.util.List;
import java.util.Set;

/** Boundary cases of Terms II and of promises 7 to 14, a sentence each: the laying. */
public final class LayingBoundsTest {
    private static final int LOW = Bounds.LOW;
    private static final int HIGH = Bounds.HIGH;
    private static Bounds bounds;

    public static void main(String[] args) throws IOException {
        bounds = new Bounds();
        numbersLeastAndMost();
        layRefused();
        secondLineOfZeros();
        foldLeastAndMost();
        foldRefused();
        delayOfOne();
        wayAsLongAsDelay();
        neededAlone();
        whyTheFirst();
        twoPoints();
        leastPointThatMeets();
        rightWithoutFold();
        whyRefused();
        beatsLeastAndMost();
        cellsThatAreThere();
        useIsCut();
        apart();
        apartByFold();
        laidRightOrNot();
        laidRefused();
        lessTheLeast();
        foldGoesRound();
        whereRefused();
        neededByTheStep();
        delayAndWayLeastAndMost();
        needsRefused();
        bestRefused();
        bestWhereNoneIsRight();
        bestWithinNumbers();
        bestOfEquals();
        bestLinesNotOfZeros();
        bestBeatsByFold();
        layingNumbers();
        layingRefused();
        bounds.end();
    }

    /** One loop of n points along k; time and the first line have one number each there. */
    private static PulseBoard line(int n, int time, int first) {
        PulseBoard x = new PulseBoard();
        x.sizes(1, 1, n);
        x.lay(0, 0, 0, time);
        if (first != 0) x.lay(1, 0, 0, first);
        return x;
    }

    private static void numbersLeastAndMost() {
        bounds.of(7, "three numbers -3 .. 3 each");
        for (int n = 0; n < 3 * 729; n++) {
            int which = n / 729;
            int[] told = {n / 81 % 9 - 4, n / 9 % 9 - 4, n % 9 - 4};
            boolean small = Math.abs(told[0]) < 4 && Math.abs(told[1]) < 4 && Math.abs(told[2]) < 4;
            boolean zeros = told[0] == 0 && told[1] == 0 && told[2] == 0;
            boolean want = small && !(which == 1 && zeros);
            String what = "lay(" + which + ", " + told[0] + ", " + told[1] + ", " + told[2] + ")";
            PulseBoard x = new PulseBoard();
            int[] numbers = {1, 1, 1, 1, 0, 0, 0, 0, 0};
            if (want) System.arraycopy(told, 0, numbers, 3 * which, 3);
            bounds.due(what, x.lay(which, told[0], told[1], told[2]), want);
            bounds.laying(what, x, numbers);
        }
    }

    private static void layRefused() {
        bounds.of(7, "False, changing nothing, for others, or if the first line would be of zeros.");
        bounds.refused("lay(1, 0, 0, 0)", 0, x -> Bounds.flag(x.lay(1, 0, 0, 0)));
        int[] noLine = {-1, 3, 4, LOW, HIGH};
        for (int bad : noLine) bounds.refused("lay(" + bad + ", ..)", 0, x -> Bounds.flag(x.lay(bad, 1, 1, 1)));
        int[] noNumber = {4, -4, LOW, HIGH};
        for (int n = 0; n < 9; n++) {
            int which = n / 3;
            int at = n % 3;
            for (int bad : noNumber) {
                int[] told = {2, 2, 2};
                told[at] = bad;
                String what = "number " + at + " of " + which + " as " + bad;
                bounds.refused(what, 0, x -> Bounds.flag(x.lay(which, told[0], told[1], told[2])));
            }
        }
    }

    private static void secondLineOfZeros() {
        bounds.of(7, "(a second line of zeros is none)");
        PulseBoard x = new PulseBoard();
        x.sizes(2, 2, 2);
        x.lay(2, 0, 1, 0);
        bounds.due("CELLS of two lines", x.laid(1), 4);
        bounds.due("lay(2, 0, 0, 0)", x.lay(2, 0, 0, 0), true);
        bounds.due("CELLS of one line", x.laid(1), 2);
        bounds.due("where 2", x.where(1, 1, 1, 2), 0);
        bounds.due("TIME may be of zeros", x.lay(0, 0, 0, 0), true);
        bounds.due("BEATS of zeros", x.laid(0), 1);
    }

    private static void foldLeastAndMost() {
        bounds.of(8, "FOLD f (1 .. 8)");
        PulseBoard x = line(8, 0, 1);
        for (int f = 8; f >= 1; f--) {
            bounds.due("fold(" + f + ")", x.fold(f), true);
            bounds.due("about(3)", x.about(3), f);
            bounds.due("BEATS", x.laid(0), f);
            bounds.due("CELLS", x.laid(1), (7 + f) / f);
        }
    }

    private static void foldRefused() {
        bounds.of(8, "FOLD: true. False for others.");
        int[] bad = {0, 9, -1, -8, 16, LOW, HIGH};
        for (int f : bad) bounds.refused("fold(" + f + ")", 0, x -> Bounds.flag(x.fold(f)));
    }

    private static void delayOfOne() {
        bounds.of(9, "of each NEEDED variable TIME times STEP (its DELAY) is 1 at least");
        int[] why = {1, 1, 1, 1, 0, 0, 0};
        for (int time = -3; time <= 3; time++) {
            PulseBoard x = line(3, time, 0);
            x.variable(0, 0, 1);
            bounds.due("DELAY " + time, x.why(0), why[time + 3]);
        }
        PulseBoard y = new PulseBoard();
        y.sizes(2, 3, 3);
        y.variable(1, -2, 2);
        y.lay(0, 3, 3, 2);
        y.lay(1, 1, 0, 0);
        y.lay(2, 0, 0, 0);
        bounds.due("3 - 6 + 4", y.needs(0, 0), 1);
        bounds.due("not for its DELAY", y.why(0) == 1, false);
        y.lay(0, 2, 3, 2);
        bounds.due("2 - 6 + 4", y.why(0), 1);
    }

    private static void wayAsLongAsDelay() {
        bounds.of(9, "the sizes of SPACE times STEP, of both lines together (its WAY), are not above it");
        // Time, first line, second line, why.
        int[][] rows = {{1, 1, 0, 0}, {1, -1, 0, 0}, {1, 2, 0, 2}, {1, -2, 0, 2}, {2, 2, 0, 0}, {2, -3, 0, 2}, {3, 3, 0, 0},
            {1, 1, 1, 2}, {2, 1, 1, 0}, {2, 1, -1, 0}, {2, -1, -1, 0}, {2, 2, -2, 2}, {2, 1, -2, 2}, {3, -1, 2, 0}, {3, 2, 2, 2}};
        for (int[] r : rows) {
            PulseBoard x = line(2, r[0], r[1]);
            x.lay(2, 0, 0, r[2]);
            x.variable(0, 0, 1);
            bounds.due("time " + r[0] + ", lines " + r[1] + ", " + r[2], x.why(0), r[3]);
            bounds.due("its WAY", x.needs(0, 1), Math.abs(r[1]) + Math.abs(r[2]));
        }
    }

    private static void neededAlone() {
        bounds.of(9, "RIGHT: of each NEEDED variable");
        PulseBoard x = line(2, -1, 0);
        x.variable(0, 0, 2);
        bounds.due("a DELAY of -2, not NEEDED", x.why(0), 0);
        x.sizes(1, 1, 3);
        bounds.due("a DELAY of -2, NEEDED", x.why(0), 1);
        PulseBoard y = line(2, 1, 3);
        y.variable(0, 0, 2);
        bounds.due("a WAY of 6, not NEEDED", y.why(0), 0);
        y.sizes(1, 1, 3);
        bounds.due("a WAY of 6, NEEDED", y.why(0), 2);
        PulseBoard one = new PulseBoard();
        one.variable(1, 0, 0);
        one.lay(0, 0, 0, 0);
        bounds.due("one POINT", one.why(0), 0);
    }

    private static void whyTheFirst() {
        bounds.of(9, "the first: 1 a DELAY below 1, 2 a WAY above the DELAY (each: the least variable; 1 of all ahead of 2)");
        PulseBoard x = new PulseBoard();
        x.sizes(3, 3, 3);
        x.variable(0, 0, 1);
        x.variable(1, 0, 0);
        x.variable(0, 1, 0);
        x.variable(0, 1, 0);
        x.lay(0, 1, 0, 1);
        x.lay(1, 2, 0, 0);
        // Variable 1 has a WAY above its DELAY, 2 and 3 a DELAY of 0, and many points meet.
        bounds.due("1 ahead of 2", x.why(0), 1);
        bounds.due("the least with a DELAY below 1", x.why(1), 2);
        x.lay(0, 1, 1, 1);
        x.lay(2, 0, 2, 0);
        bounds.due("2 ahead of 3", x.why(0), 2);
        bounds.due("the least with a WAY above", x.why(1), 1);
        x.lay(1, 1, 0, 0);
        bounds.due("the next with a WAY above", x.why(1), 2);
        x.lay(2, 0, 0, 0);
        bounds.due("3 then", x.why(0), 3);
        x.lay(2, 0, 1, 0);
        bounds.due("none", x.why(0), 0);
    }

    private static void twoPoints() {
        bounds.of(9, "no two POINTS have one BEAT and CELL");
        PulseBoard x = new PulseBoard();
        x.sizes(1, 2, 3);
        x.lay(0, 0, 0, 1);
        bounds.due("one BEAT and CELL", x.why(0), 3);
        x.lay(0, 0, 3, 1);
        bounds.due("another BEAT each", x.why(0), 0);
        x.lay(0, 0, 2, 1);
        bounds.due("one BEAT of 2 for two", x.why(0), 3);
        x.lay(1, 0, 0, 1);
        bounds.due("in other CELLS of the first line", x.why(0), 0);
        x.lay(0, 0, 0, 0);
        bounds.due("one BEAT for all", x.why(0), 3);
        x.lay(2, 0, 1, 0);
        bounds.due("in other CELLS of the second line", x.why(0), 0);
        x.sizes(8, 8, 8);
        bounds.due("512 points on 64 CELLS at one BEAT", x.why(0), 3);
        x.lay(0, 1, 0, 0);
        bounds.due("512 points on 64 CELLS at eight", x.why(0), 0);
        x.sizes(1, 1, 1);
        bounds.due("one POINT", x.why(0), 0);
    }

    private static void meet(String what, PulseBoard x, int later, int earlier) {
        bounds.due(what, x.why(0), 3);
        bounds.due(what + ", the later", x.why(1), later);
        bounds.due(what + ", the earlier", x.why(2), earlier);
    }

    private static void leastPointThatMeets() {
        bounds.of(9, "3 two POINTS: the least by RANK that has one ahead of it with its BEAT and CELL, and the first such.");
        meet("all of three", line(3, 0, 0), 1, 0);
        PulseBoard x = new PulseBoard();
        x.sizes(1, 2, 4);
        x.lay(0, 0, 1, 1);
        // 1, 2, 3 have the BEATS of 8, 9, 10.
        meet("three pairs", x, 8, 1);
        x.lay(0, 0, 2, -1);
        // 0 has the BEAT of 10, and 1 that of 11.
        meet("not the next", x, 10, 0);
        x.lay(0, 0, 3, 1);
        meet("the last of a row", x, 8, 3);
        x.lay(0, 0, 0, 0);
        x.lay(1, 0, 0, 1);
        meet("a row on a row", x, 8, 0);
        x.sizes(8, 8, 8);
        x.lay(0, 0, 1, 0);
        meet("a sheet on a sheet", x, 64, 0);
        x.sizes(8, 1, 1);
        x.lay(0, 0, 0, 0);
        meet("64 and 0", x, 64, 0);
    }

    private static void rightWithoutFold() {
        bounds.of(9, "RIGHT by the laying without FOLD");
        // Cells 0 .. 7 a neighbour a beat: with a FOLD of 3 a value would go from beat 2 to 3, and to another cell.
        int[][] rows = {{1, 1, 0}, {1, -1, 0}, {0, 1, 1}, {1, 2, 2}};
        for (int[] r : rows) {
            PulseBoard x = line(8, r[0], r[1]);
            x.variable(0, 0, 1);
            for (int f = 1; f <= 8; f++) {
                x.fold(f);
                bounds.due("why with fold " + f, x.why(0), r[2]);
                bounds.due("run with fold " + f, x.run(), r[2] == 0 ? 8 : -1);
            }
        }
        PulseBoard y = new PulseBoard();
        y.sizes(1, 2, 2);
        for (int f = 1; f <= 8; f++) {
            y.fold(f);
            meet("with fold " + f, y, 8, 1);
        }
    }

    private static void whyRefused() {
        bounds.of(9, "NONE for others, and 1 and 2 where there is none.");
        int[] bad = {-1, 3, 4, LOW, HIGH};
        for (int b : bad) bounds.refused("why(" + b + ")", -1, x -> x.why(b));
        Boards[] right = {Boards.NEW, Boards.PRODUCT, Boards.FULL, Boards.EMPTY};
        for (Boards board : right) {
            bounds.due("why(0) of " + board, board.make().why(0), 0);
            bounds.refused("why(1) of " + board, -1, board::make, x -> x.why(1));
            bounds.refused("why(2) of " + board, -1, board::make, x -> x.why(2));
        }
        PulseBoard x = line(2, 0, 0);
        x.variable(0, 0, 1);
        bounds.due("the variable of 1", x.why(1), 0);
        bounds.due("no POINT of 1", x.why(2), -1);
        x.lay(0, 0, 0, 1);
        x.lay(1, 0, 0, 2);
        bounds.due("the variable of 2", x.why(1), 0);
        bounds.due("no POINT of 2", x.why(2), -1);
    }

    private static void beatsLeastAndMost() {
        bounds.of(10, "BEATS: the greatest BEAT and 1.");
        PulseBoard x = new PulseBoard();
        x.lay(0, 3, 3, 3);
        bounds.due("one POINT", x.laid(0), 1);
        x.sizes(8, 8, 8);
        bounds.due("the most without FOLD", x.laid(0), 64);
        x.lay(0, -3, 3, -3);
        bounds.due("the most, up and down", x.laid(0), 64);
        x.lay(0, 0, 0, 0);
        bounds.due("TIME of zeros", x.laid(0), 1);
        x.lay(0, 0, 0, -1);
        bounds.due("one loop", x.laid(0), 8);
        x.lay(0, 3, 3, 3);
        x.lay(1, 3, 3, 3);
        x.fold(8);
        // The last is BEAT 63 and CELL 63.
        bounds.due("the most of all", x.laid(0), 512);
        x.lay(1, 0, 1, 1);
        bounds.due("CELL 14 last", x.laid(0), 8 * 63 + 6 + 1);
    }

    private static void cellsThatAreThere() {
        bounds.of(10, "CELLS: how many different ones POINTS have.");
        PulseBoard x = new PulseBoard();
        x.lay(1, 3, 3, 3);
        bounds.due("one POINT", x.laid(1), 1);
        x.sizes(1, 1, 8);
        bounds.due("not those between", x.laid(1), 8);
        x.lay(1, 3, 0, 0);
        bounds.due("all in one", x.laid(1), 1);
        x.sizes(8, 8, 8);
        x.lay(1, 3, -3, 3);
        bounds.due("22 sums", x.laid(1), 22);
        x.lay(1, 1, 0, 0);
        x.lay(2, -1, 0, 0);
        bounds.due("two lines along", x.laid(1), 8);
        x.lay(2, 0, 3, 0);
        bounds.due("two lines across", x.laid(1), 64);
        x.lay(1, 1, 2, 3);
        x.lay(2, 3, -2, 1);
        bounds.due("many", x.laid(1), pairs(1, 2, 3, 3, -2, 1));
        x.lay(1, -1, 0, 0);
        x.lay(2, 3, 3, 3);
        x.fold(4);
        // 0 .. 17 threes by the second line with i below 4, 4 .. 21 with others.
        bounds.due("CELLS 0, 63 and 1, 0 are two", x.laid(1), 36);
        x.lay(2, 0, 0, 0);
        x.lay(1, 3, 0, 0);
        x.fold(8);
        bounds.due("0, 3 .. 21 by 8", x.laid(1), 3);
        x.fold(2);
        bounds.due("0, 3 .. 21 by 2", x.laid(1), 8);
    }

    /** How many different pairs of sums there are on 512 points. */
    private static int pairs(int... a) {
        Set<List<Integer>> all = new HashSet<>();
        for (int n = 0; n < 512; n++) {
            int i = n / 64;
            int j = n / 8 % 8;
            int k = n % 8;
            all.add(List.of(a[0] * i + a[1] * j + a[2] * k, a[3] * i + a[4] * j + a[5] * k));
        }
        return all.size();
    }

    private static void useIsCut() {
        bounds.of(10, "USE: how many POINTS, in a thousandth of BEATS * CELLS, cut.");
        bounds.due("one of one", new PulseBoard().laid(2), 1000);
        bounds.due("3 of 3 * 3", line(3, 1, 1).laid(2), 333);
        // 2 POINTS, BEATS 0 and 3: 2 of 4 * 2.
        bounds.due("2 of 8", line(2, 3, 1).laid(2), 250);
        PulseBoard x = line(7, 3, 1);
        bounds.due("7 of 19 * 7", x.laid(2), 52);
        x.fold(8);
        // BEAT 18 and CELL 6 last: 151 BEATS, one CELL.
        bounds.due("7 of 151", x.laid(2), 46);
        bounds.due("8 of one BEAT and CELL", line(8, 0, 0).laid(2), 8000);
        PulseBoard y = new PulseBoard();
        y.sizes(1, 8, 8);
        y.lay(0, 3, 0, 0);
        bounds.due("the most", y.laid(2), 64000);
        y.sizes(8, 8, 8);
        y.lay(0, 3, 3, 3);
        y.fold(8);
        // BEATS 8 * 63 + 7 and 1, one CELL.
        bounds.due("all on one CELL", y.laid(2), 1000);
    }

    private static void apart() {
        bounds.of(10, "APART: the least n above 0 for which the same sum, begun n, 2 n, 3 n .. BEATS later,"
                + " has no two POINTS (of any two) with one BEAT and CELL");
        bounds.due("one POINT", new PulseBoard().laid(3), 1);
        bounds.due("a CELL each", line(8, 0, 1).laid(3), 1);
        bounds.due("a CELL each, many BEATS", line(8, 3, 1).laid(3), 1);
        bounds.due("one CELL, all BEATS", line(8, 1, 0).laid(3), 8);
        bounds.due("two POINTS, BEATS 0, 1", line(2, 1, 0).laid(3), 2);
        // Begun 1 later the second sum misses, but the third meets.
        bounds.due("two POINTS, BEATS 0, 2", line(2, 2, 0).laid(3), 3);
        bounds.due("two POINTS, BEATS 0, 3", line(2, 3, 0).laid(3), 2);
        bounds.due("two POINTS, down", line(2, -3, 0).laid(3), 2);
        // 3, 6 and 9 are taken; 1, 2 and 3 lead there.
        bounds.due("four POINTS, 3 apart", line(4, 3, 0).laid(3), 4);
        // 3 .. 21 are taken; 7 leads to 21, 8 to 8 and 16.
        bounds.due("eight POINTS, 3 apart", line(8, 3, 0).laid(3), 8);
        PulseBoard x = new PulseBoard();
        x.sizes(2, 2, 1);
        x.lay(0, 1, 3, 0);
        x.lay(1, 0, 1, 0);
        bounds.due("two CELLS, 1 apart in each", x.laid(3), 2);
        x.lay(1, 1, 0, 0);
        bounds.due("two CELLS, 3 apart in each", x.laid(3), 2);
        x.lay(1, 0, 0, 1);
        bounds.due("one CELL, 0, 1, 3, 4", x.laid(3), 5);
        x.lay(2, 1, 0, 0);
        bounds.due("parted by the second line", x.laid(3), 2);
    }

    private static void apartByFold() {
        bounds.of(10, "with one BEAT and CELL, by the FOLD");
        PulseBoard x = line(8, 0, 1);
        int[] want = {1, 2, 3, 4, 5, 6, 7, 8};
        for (int f = 1; f <= 8; f++) {
            x.fold(f);
            bounds.due("one CELL works " + f, x.laid(3), want[f - 1]);
        }
        PulseBoard y = line(2, 1, 1);
        y.fold(2);
        bounds.due("BEATS 0, 3 of one CELL", y.laid(3), 2);
        y.fold(3);
        bounds.due("BEATS 0, 4 of one CELL", y.laid(3), 3);
        y.lay(1, 0, 0, 3);
        bounds.due("BEATS 0, 3 of two", y.laid(3), 1);
        PulseBoard z = line(3, 1, -1);
        z.fold(2);
        bounds.due("BEAT 0 of one CELL, 3 and 4 of the other", z.laid(3), 2);
        PulseBoard most = mostBeats();
        bounds.due("512 BEATS", most.laid(3), apartOfMostBeats());
        most.lay(2, 0, 1, 0);
        // A CELL has 64 POINTS, no two of them with one rest of BEATS, 24 (i + j + k) + i, by 64.
        bounds.due("512 BEATS, 64 POINTS a CELL", most.laid(3), 64);
    }

    /** All points at BEATS 0 to 511, the first and the last on one CELL. */
    private static PulseBoard mostBeats() {
        PulseBoard x = new PulseBoard();
        x.sizes(8, 8, 8);
        x.lay(0, 3, 3, 3);
        x.lay(1, 1, 0, 0);
        x.lay(2, 0, 1, -1);
        x.fold(8);
        bounds.due("RIGHT", x.why(0), 0);
        bounds.due("BEATS", x.laid(0), 512);
        bounds.due("the first and the last", x.where(0, 0, 0, 2), x.where(7, 7, 7, 2));
        return x;
    }

    /** By n BEATS are alike if their rests by n are: then two sums meet there. */
    private static int apartOfMostBeats() {
        for (int n = 1; n <= 512; n++) {
            Set<Integer> taken = new HashSet<>();
            for (int p = 0; p < 512; p++) {
                int i = p / 64;
                int j = p / 8 % 8;
                int k = p % 8;
                taken.add((8 * 3 * (i + j + k) + i) % n * 15 + j - k + 7);
            }
            if (taken.size() == 512) return n;
        }
        return 0;
    }

    private static void laidRightOrNot() {
        bounds.of(10, "(of the laying as it is, RIGHT or not; 3: NONE if two POINTS of one sum meet)");
        PulseBoard x = line(4, -1, 3);
        x.variable(0, 0, 1);
        int[] want = {4, 4, 250, 1};
        for (int n = 0; n < 4; n++) bounds.due("a DELAY of -1: laid(" + n + ")", x.laid(n), want[n]);
        x.lay(0, 0, 0, 1);
        bounds.due("a WAY of 3", x.why(0), 2);
        for (int n = 0; n < 4; n++) bounds.due("a WAY of 3: laid(" + n + ")", x.laid(n), want[n]);
        x.lay(0, 0, 0, 0);
        x.lay(1, 1, 0, 0);
        int[] met = {1, 1, 4000, -1};
        for (int n = 0; n < 4; n++) bounds.due("all meet: laid(" + n + ")", x.laid(n), met[n]);
        x.fold(8);
        for (int n = 0; n < 4; n++) bounds.due("all meet, folded: laid(" + n + ")", x.laid(n), met[n]);
        x.sizes(1, 2, 2);
        x.lay(0, 0, 1, 1);
        bounds.due("but two POINTS apart", x.laid(3), -1);
    }

    private static void laidRefused() {
        bounds.of(10, "NONE for others.");
        int[] bad = {-1, 4, 5, LOW, HIGH};
        for (int b : bad) bounds.refused("laid(" + b + ")", -1, x -> x.laid(b));
    }

    private static void lessTheLeast() {
        bounds.of(11, "The BEAT of a POINT: its numbers times TIME's, together, less the least of all; its CELL: likewise by each line.");
        PulseBoard x = new PulseBoard();
        x.sizes(8, 8, 8);
        x.lay(0, -3, -3, -3);
        x.lay(1, 3, 3, 3);
        x.lay(2, 3, -3, 0);
        int[][] rows = {{0, 0, 0, 63, 0, 21}, {7, 7, 7, 0, 63, 21}, {7, 0, 0, 42, 21, 42}, {0, 7, 0, 42, 21, 0}, {1, 2, 3, 45, 18, 18}};
        for (int[] r : rows) {
            for (int w = 0; w < 3; w++) bounds.due("where " + w + " of " + r[0] + r[1] + r[2], x.where(r[0], r[1], r[2], w), r[3 + w]);
        }
        x.sizes(1, 1, 1);
        for (int w = 0; w < 3; w++) bounds.due("one POINT", x.where(0, 0, 0, w), 0);
    }

    private static void foldGoesRound() {
        bounds.of(11, "CELL c of the first line becomes c / f (cut), BEAT b becomes f * b + c % f (of c the first line's)");
        for (int f = 1; f <= 8; f++) {
            PulseBoard x = line(8, 2, -3);
            x.lay(2, 0, 0, 1);
            x.fold(f);
            for (int k = 0; k < 8; k++) {
                int c = 21 - 3 * k;
                bounds.due("BEAT of " + k + ", fold " + f, x.where(0, 0, k, 0), 2 * k * f + c % f);
                bounds.due("CELL of " + k + ", fold " + f, x.where(0, 0, k, 1), c / f);
                bounds.due("second of " + k + ", fold " + f, x.where(0, 0, k, 2), k);
            }
        }
    }

    private static void whereRefused() {
        bounds.of(11, "Of a POINT: 0 its BEAT, 1 its CELL by the first line, 2 by the second (by the FOLD). NONE for others.");
        int[] noPlace = {-1, 3, 8, LOW, HIGH};
        for (int bad : noPlace) {
            bounds.refused("i " + bad, -1, x -> x.where(bad, 0, 0, 0));
            bounds.refused("j " + bad, -1, x -> x.where(0, bad, 0, 1));
            bounds.refused("k " + bad, -1, x -> x.where(0, 0, bad, 2));
            bounds.refused("what " + bad, -1, x -> x.where(0, 0, 0, bad));
        }
        int[][] next = {{2, 0, 0}, {0, 2, 0}, {0, 0, 2}};
        for (int[] p : next) bounds.refused("the size itself", -1, Boards.PRODUCT::make, x -> x.where(p[0], p[1], p[2], 0));
    }

    private static void neededByTheStep() {
        bounds.of(12, "A variable is NEEDED if some POINT's value of it COMES from another POINT.");
        for (int n = 0; n < 27; n++) {
            int[] size = {1 + n / 9, 1 + n / 3 % 3, 1 + n % 3};
            for (int m = 63; m < 125; m++) {
                int[] s = {m / 25 - 2, m / 5 % 5 - 2, m % 5 - 2};
                PulseBoard x = new PulseBoard();
                x.sizes(size[0], size[1], size[2]);
                x.variable(s[0], s[1], s[2]);
                // The farthest two points are SIZE - 1 apart.
                boolean needed = Math.abs(s[0]) < size[0] && Math.abs(s[1]) < size[1] && Math.abs(s[2]) < size[2];
                bounds.due("step " + s[0] + s[1] + s[2] + " of sizes " + size[0] + size[1] + size[2], x.needs(0, 2), needed ? 1 : 0);
            }
        }
    }

    private static void delayAndWayLeastAndMost() {
        bounds.of(12, "Of a variable: 0 its DELAY, 1 its WAY, 2 whether it is NEEDED (1, 0).");
        PulseBoard x = new PulseBoard();
        x.variable(2, 2, 2);
        x.variable(2, -2, -2);
        int[] sign = {1, -1};
        for (int s : sign) {
            x.lay(0, 3 * s, 3 * s, 3 * s);
            x.lay(1, 3 * s, 3 * s, 3 * s);
            x.lay(2, -3 * s, -3 * s, -3 * s);
            bounds.due("DELAY", x.needs(0, 0), 18 * s);
            bounds.due("WAY", x.needs(0, 1), 36);
            bounds.due("DELAY up and down", x.needs(1, 0), -6 * s);
            bounds.due("WAY up and down", x.needs(1, 1), 12);
            bounds.due("NEEDED", x.needs(0, 2), 0);
        }
        x.lay(0, 0, 0, 0);
        x.lay(1, 1, 1, 0);
        x.lay(2, 0, 0, 0);
        bounds.due("no DELAY", x.needs(0, 0), 0);
        bounds.due("no WAY", x.needs(1, 1), 0);
    }

    private static void needsRefused() {
        bounds.of(12, "-1000 for others.");
        int[] bad = {-1, 4, LOW, HIGH};
        for (int b : bad) {
            bounds.refused("variable " + b, -1000, x -> x.needs(b, 0));
            bounds.refused("what " + b, -1000, x -> x.needs(0, b));
        }
        bounds.refused("what 3", -1000, x -> x.needs(0, 3));
        for (int what = 0; what < 3; what++) {
            int w = what;
            bounds.refused("variable 3", -1000, Boards.PRODUCT::make, x -> x.needs(3, w));
            bounds.refused("variable 0 of none", -1000, Boards.NEW::make, x -> x.needs(0, w));
            bounds.refused("variable 0 of none", -1000, Boards.EMPTY::make, x -> x.needs(0, w));
        }
    }

    private static void bestRefused() {
        bounds.of(13, "NONE, changing nothing: another b, lines; or none is RIGHT.");
        int[] numbers = {-1, 0, 1, 2, 3, LOW, HIGH};
        for (int b : numbers) {
            for (int lines : numbers) {
                boolean is = b == 1 && (lines == 1 || lines == 2) || b == 2 && lines == 1;
                if (is) bounds.due("best(" + b + ", " + lines + ")", new PulseBoard().best(b, lines), 1);
                else bounds.refused("best(" + b + ", " + lines + ")", -1, x -> x.best(b, lines));
            }
        }
    }

    /** 27 points that only numbers to 3 part on one line, or to 2; run. */
    private static PulseBoard cube() {
        PulseBoard x = new PulseBoard();
        x.sizes(3, 3, 3);
        x.lay(0, 1, 3, 0);
        x.lay(1, 0, 0, 1);
        x.fold(2);
        x.run();
        return x;
    }

    /** A step against two others: none of the small times has a delay for all. */
    private static PulseBoard against() {
        PulseBoard x = new PulseBoard();
        x.sizes(2, 3, 1);
        x.variable(1, -2, 0);
        x.variable(0, 1, 0);
        x.lay(0, 3, 1, 0);
        x.lay(1, 0, 0, 1);
        x.run();
        return x;
    }

    private static void bestWhereNoneIsRight() {
        bounds.of(13, "or none is RIGHT.");
        bounds.due("there is a run", cube().about(2), 1);
        bounds.refused("27 points on a line", -1, LayingBoundsTest::cube, x -> x.best(1, 1));
        bounds.due("there is a run", against().about(2), 1);
        bounds.refused("no TIME of 1", -1, LayingBoundsTest::against, x -> x.best(1, 1));
        bounds.refused("no TIME of 1, two lines", -1, LayingBoundsTest::against, x -> x.best(1, 2));
        bounds.refused("no TIME of 2", -1, LayingBoundsTest::against, x -> x.best(2, 1));
    }

    private static void bestWithinNumbers() {
        bounds.of(13, "of all layings with numbers -b .. b");
        PulseBoard x = cube();
        bounds.due("numbers to 2 part 27 points", x.best(2, 1) > 0, true);
        bounds.due("RIGHT", x.why(0), 0);
        int most = 0;
        for (int n = 0; n < 6; n++) most = Math.max(most, Math.abs(x.laying(n / 3, n % 3)));
        bounds.due("the greatest number", most, 2);
        // A line of 2, -1, -1 and one more would part all at one BEAT.
        bounds.due("27 points on two lines of -1 .. 1", x.best(1, 2), 6);
        x.fold(1);
        bounds.due("the same without FOLD", x.best(1, 2), 3);
        PulseBoard y = line(3, 3, 3);
        y.variable(0, 0, 1);
        bounds.due("best(1, 1)", y.best(1, 1), 3);
        bounds.laying("least of -1 .. 1", y, -1, -1, 1, -1, -1, 0, 0, 0, 0);
        bounds.due("best(2, 1)", y.best(2, 1), 3);
        bounds.laying("least of -2 .. 2", y, -2, -2, 1, -2, -2, 0, 0, 0, 0);
    }

    private static void bestOfEquals() {
        bounds.of(13, "fewest BEATS, of these fewest CELLS, of these the first by its numbers: TIME, first line, second line, the lower first");
        PulseBoard one = new PulseBoard();
        bounds.due("one POINT", one.best(1, 1), 1);
        bounds.laying("all are alike", one, -1, -1, -1, -1, -1, -1, 0, 0, 0);
        one.best(1, 2);
        bounds.laying("all of two are alike", one, -1, -1, -1, -1, -1, -1, -1, -1, -1);
        for (int d = 0; d < 3; d++) bestOfTwo(d);
        PulseBoard x = new PulseBoard();
        x.sizes(3, 3, 1);
        x.variable(2, 1, 0);
        // TIME 0, 1 is lower, but with a DELAY of 1 it takes five CELLS.
        bounds.due("CELLS ahead of TIME's numbers", x.best(1, 1), 3);
        bounds.laying("CELLS ahead of TIME's numbers", x, 1, 0, -1, 0, -1, -1, 0, 0, 0);
        bounds.due("three CELLS", x.laid(1), 3);
    }

    /** Two points along one of the loops. */
    private static void bestOfTwo(int d) {
        int[] one = {0, 0, 0};
        one[d] = 1;
        PulseBoard x = new PulseBoard();
        x.sizes(1 + one[0], 1 + one[1], 1 + one[2]);
        // The first numbers with a 0, and with a 1, along the loop.
        int[] still = {one[0] - 1, one[1] - 1, one[2] - 1};
        int[] on = {2 * one[0] - 1, 2 * one[1] - 1, 2 * one[2] - 1};
        bounds.due("BEATS ahead of CELLS", x.best(1, 1), 1);
        bounds.laying("one BEAT on two CELLS", x, still[0], still[1], still[2], -1, -1, -1, 0, 0, 0);
        x.variable(one[0], one[1], one[2]);
        bounds.due("CELLS ahead of numbers", x.best(1, 1), 2);
        bounds.laying("one CELL, not the line -1, -1, -1", x, on[0], on[1], on[2], still[0], still[1], still[2], 0, 0, 0);
        bounds.due("CELLS ahead of numbers, two lines", x.best(1, 2), 2);
        bounds.laying("one CELL of two lines", x, on[0], on[1], on[2], still[0], still[1], still[2], still[0], still[1], still[2]);
    }

    private static void bestLinesNotOfZeros() {
        bounds.of(13, "(of one line, or of two that are both not of zeros, as told)");
        PulseBoard x = Boards.PRODUCT.make();
        // A loop each in TIME has four BEATS; three CELLS would do, but two lines that aren't of zeros have four.
        bounds.due("one line", x.best(1, 1), 4);
        bounds.laying("one line", x, 1, 1, 1, -1, 0, 1, 0, 0, 0);
        bounds.due("CELLS of one line", x.laid(1), 3);
        bounds.due("two lines", x.best(1, 2), 4);
        bounds.laying("two lines", x, 1, 1, 1, -1, 0, 0, 0, -1, 0);
        bounds.due("CELLS of two lines", x.laid(1), 4);
        bounds.due("one line again", x.best(1, 1), 4);
        bounds.laying("one line again", x, 1, 1, 1, -1, 0, 1, 0, 0, 0);
    }

    private static void bestBeatsByFold() {
        bounds.of(13, "The laying becomes the BEST one for b, with one line or two: its BEATS.");
        for (int f = 1; f <= 8; f++) {
            PulseBoard x = line(4, 1, 0);
            x.variable(0, 0, 1);
            x.fold(f);
            // BEATS 0 .. 3 on CELL 0, so the last is 3 f.
            bounds.due("best(1, 1) with fold " + f, x.best(1, 1), 3 * f + 1);
            bounds.due("laid(0) with fold " + f, x.laid(0), 3 * f + 1);
            bounds.due("the FOLD", x.about(3), f);
            bounds.due("best(1, 2) with fold " + f, x.best(1, 2), 3 * f + 1);
            bounds.due("best(2, 1) with fold " + f, x.best(2, 1), 3 * f + 1);
        }
    }

    private static void layingNumbers() {
        bounds.of(14, "Number k of TIME (which 0), a line of SPACE (1, 2).");
        PulseBoard x = new PulseBoard();
        for (int n = -3; n <= 3; n++) {
            x.lay(0, n, -n, 3);
            x.lay(1, 3, n, -n);
            x.lay(2, -n, 3, n);
            bounds.laying("" + n, x, n, -n, 3, 3, n, -n, -n, 3, n);
        }
        x.lay(2, 0, 0, 0);
        for (int k = 0; k < 3; k++) bounds.due("no second line", x.laying(2, k), 0);
    }

    private static void layingRefused() {
        bounds.of(14, "-1000 for others.");
        int[] bad = {-1, 3, 4, 9, LOW, HIGH};
        for (int b : bad) {
            for (int n = 0; n < 3; n++) {
                int other = n;
                bounds.refused("laying(" + b + ", " + n + ")", -1000, x -> x.laying(b, other));
                bounds.refused("laying(" + n + ", " + b + ")", -1000, x -> x.laying(other, b));
            }
        }
    }
}
