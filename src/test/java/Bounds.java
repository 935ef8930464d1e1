import java.io.IOException;
import java.nio.file.Files;
import java.nio.file.Path;
import java.util.List;
import java.util.function.Supplier;

/** Tests of sentences that name a boundary case: each by its promise and the document's own words. */
final class Bounds {
    static final int LOW = Integer.MIN_VALUE;
    static final int HIGH = Integer.MAX_VALUE;

    /** A call and its answer; a boolean counts 1 or 0. */
    interface Call {
        long on(PulseBoard x);
    }

    private final String document;
    private String sentence = "";
    private int sentences = 0;
    private int asked = 1;
    private int wrong = 0;

    Bounds() throws IOException {
        document = plainly(Files.readString(Path.of("../shared/DOC.md")));
    }

    private static String plainly(String text) {
        return text.replaceAll("\\s+", " ");
    }

    /** The tests from here to the next sentence are of this one. */
    void of(int promise, String words) {
        endSentence();
        sentence = "promise " + promise + ", \"" + words + "\"";
        sentences++;
        asked = 0;
        // Not a fault of the class: the document may be worded anew.
        if (!document.contains(plainly(words))) System.out.println("the document doesn't say: " + sentence);
    }

    private void endSentence() {
        if (asked == 0) fail("nothing is tested");
    }

    private void fail(String what) {
        wrong++;
        System.out.println(sentence + ": " + what);
    }

    void due(String what, long got, long want) {
        asked++;
        if (got != want) fail(what + " answered " + got + ", due is " + want);
    }

    void due(String what, boolean got, boolean want) {
        due(what, flag(got), flag(want));
    }

    static long flag(boolean answer) {
        return answer ? 1L : 0L;
    }

    /** A call that every board refuses. */
    void refused(String what, long answer, Call call) {
        for (Boards board : Boards.values()) refused(what + " on " + board, answer, board::make, call);
    }

    /** A call that answers as refused, and changes nothing: neither what is seen nor what is told later. */
    void refused(String what, long answer, Supplier<PulseBoard> board, Call call) {
        PulseBoard told = board.get();
        due(what, call.on(told), answer);
        same(what, Snapshot.of(told), Snapshot.of(board.get()));
        PulseBoard later = board.get();
        call.on(later);
        same(what + ", then more", Snapshot.of(Boards.goOn(later)), Snapshot.of(Boards.goOn(board.get())));
    }

    private void same(String what, List<String> got, List<String> want) {
        for (int n = 0; n < Math.max(got.size(), want.size()); n++) {
            String left = n < got.size() ? got.get(n) : "none";
            String right = n < want.size() ? want.get(n) : "none";
            if (!left.equals(right)) {
                fail(what + " changed something: " + left + ", as due " + right);
                return;
            }
        }
    }

    void laying(String what, PulseBoard x, int... want) {
        for (int n = 0; n < 9; n++) due(what + " laying(" + n / 3 + ", " + n % 3 + ")", x.laying(n / 3, n % 3), want[n]);
    }

    void end() {
        endSentence();
        System.out.println(wrong == 0 ? sentences + " sentences hold" : wrong + " answers are not as due");
        if (wrong != 0) System.exit(1);
    }
}
