import java.util.ArrayList;
import java.util.List;

/** All that can be asked of a board, a row each: boards that were told the same have the same rows. */
final class Snapshot {
    /** What the document says an object is used for. */
    private static final int MOST_CALLS = 512;

    private final PulseBoard x;
    private final List<String> rows = new ArrayList<>();
    private final int[] size = new int[3];
    private int calls = 0;

    private Snapshot(PulseBoard board) {
        x = board;
    }

    static List<String> of(PulseBoard board) {
        Snapshot all = new Snapshot(board);
        for (int d = 0; d < 3; d++) size(all, d);
        int variables = all.row("about(0)", board.about(0));
        for (int n = 1; n < 4; n++) all.row("about(" + n + ")", board.about(n));
        all.askLaying();
        all.askPoints();
        for (int v = 0; v < variables; v++) all.askVariable(v);
        if (all.calls + Boards.MOST_TOLD > MOST_CALLS) throw new IllegalStateException("too many calls: " + all.calls);
        return all.rows;
    }

    private static void size(Snapshot all, int d) {
        all.size[d] = all.row("about(" + (10 + d) + ")", all.x.about(10 + d));
    }

    private int row(String call, int answer) {
        calls++;
        rows.add(call + " is " + answer);
        return answer;
    }

    private void askLaying() {
        for (int n = 0; n < 9; n++) row("laying(" + n / 3 + ", " + n % 3 + ")", x.laying(n / 3, n % 3));
        for (int n = 0; n < 3; n++) row("why(" + n + ")", x.why(n));
        for (int n = 1; n < 4; n++) row("laid(" + n + ")", x.laid(n));
        int beats = row("laid(0)", x.laid(0));
        for (int n = 0; n <= beats; n++) row("held(" + n + ")", x.held(n));
    }

    private int points() {
        return size[0] * size[1] * size[2];
    }

    /** The n-th point by rank. */
    private int[] point(int n) {
        return new int[] {n / (size[1] * size[2]), n / size[2] % size[1], n % size[2]};
    }

    private void askPoints() {
        for (int n = 0; n < points(); n++) {
            int[] p = point(n);
            int[] at = new int[3];
            for (int w = 0; w < 3; w++) at[w] = row("where " + w + " of point " + n, x.where(p[0], p[1], p[2], w));
            row("worked where point " + n + " is", x.worked(at[0], at[1], at[2]));
        }
    }

    private void askVariable(int v) {
        for (int n = 0; n < 3; n++) row("needs(" + v + ", " + n + ")", x.needs(v, n));
        for (int n = 0; n < points(); n++) {
            int[] p = point(n);
            row("value of " + v + " at point " + n, x.value(v, p[0], p[1], p[2]));
            row("plain of " + v + " at point " + n, x.plain(v, p[0], p[1], p[2]));
        }
        int results = 0;
        while (row("result(" + v + ", " + results + ", 0)", x.result(v, results, 0)) != PulseBoard.NONE) results++;
        // What plain answers at its point is the number of a result; the last one stands for all.
        row("the last result of " + v, x.result(v, results - 1, 1));
    }
}
