import java.util.Arrays;

/**
 * Sums over the points of three loops, laid in time and on a line or a grid of cells.
 * The words that the document writes in capitals stand here in small letters. A point is
 * named by its code, 64 i + 8 j + k, whose order is the points' rank.
 */
public final class PulseBoard {
    public static final int NONE = -1;

    private static final int NO_NUMBER = -1000;
    private static final int MOST_SIZE = 8;
    private static final int MOST_STEP = 2;
    private static final int MOST_LAID = 3;
    private static final int MOST_FOLD = 8;
    private static final int MOST_VARIABLES = 4;
    private static final int ACTS = 8;
    private static final int TIME = 0;
    private static final int FIRST = 1;
    private static final int SECOND = 2;
    private static final int CODES = 512;
    /** A beat without fold is at most 3 * 3 * 7, so with fold f at most 64 f - 1. */
    private static final int MOST_BEATS = 64 * MOST_FOLD;
    /** A cell by one line is at most 3 * 3 * 7 too; a key holds one of each line. */
    private static final int CELL_KEYS = 64 * 64;

    private final Sum sum;
    private final Plan plan;
    private final Places places;
    private final Search search;
    private final Run latest;

    public PulseBoard() {
        sum = new Sum();
        plan = new Plan();
        places = new Places();
        search = new Search();
        latest = new Run();
    }

    public boolean sizes(int i, int j, int k) {
        if (!isSize(i) || !isSize(j) || !isSize(k)) {
            return false;
        }
        sum.resize(i, j, k);
        forgetPlaces();
        return true;
    }

    public int variable(int i, int j, int k) {
        if (sum.variables >= MOST_VARIABLES || !isStep(i, j, k)) {
            return NONE;
        }
        latest.there = false;
        return sum.addVariable(i, j, k);
    }

    public boolean act(int v, int act, int a, int b) {
        if (!sum.has(v) || !sum.has(a) || !sum.has(b) || act < 0 || act >= ACTS) {
            return false;
        }
        sum.setAct(v, act, a, b);
        latest.there = false;
        return true;
    }

    public boolean edge(int v, int i, int j, int k, int value) {
        int code = sum.codeOf(i, j, k);
        if (!sum.has(v) || code == NONE) {
            return false;
        }
        sum.setEdge(v, code, value);
        latest.there = false;
        return true;
    }

    public void clear() {
        sum.dropVariables();
        latest.there = false;
    }

    public boolean lay(int which, int i, int j, int k) {
        if (!isIndex(which) || !within(MOST_LAID, i, j, k)) {
            return false;
        }
        if (which == FIRST && areZeros(i, j, k)) {
            return false;
        }
        plan.put(which, i, j, k);
        forgetPlaces();
        return true;
    }

    public boolean fold(int f) {
        if (f < 1 || f > MOST_FOLD) {
            return false;
        }
        plan.fold = f;
        forgetPlaces();
        return true;
    }

    public int why(int what) {
        int reason = reason();
        switch (what) {
            case 0:
                return reason;
            case 1:
                return culprit(reason);
            case 2:
                return reason == 3 ? places.earlier : NONE;
            default:
                return NONE;
        }
    }

    public int laid(int what) {
        settle();
        switch (what) {
            case 0:
                return places.beats;
            case 1:
                return places.cells;
            case 2:
                return places.use(sum);
            case 3:
                return places.apart(sum);
            default:
                return NONE;
        }
    }

    public int where(int i, int j, int k, int what) {
        int code = sum.codeOf(i, j, k);
        if (code == NONE) {
            return NONE;
        }
        settle();
        switch (what) {
            case 0:
                return places.beat[code];
            case 1:
                return places.cell[code];
            case 2:
                return places.second[code];
            default:
                return NONE;
        }
    }

    public int needs(int v, int what) {
        if (!sum.has(v)) {
            return NO_NUMBER;
        }
        switch (what) {
            case 0:
                return plan.delay(sum, v);
            case 1:
                return plan.way(sum, v);
            case 2:
                return sum.isNeeded(v) ? 1 : 0;
            default:
                return NO_NUMBER;
        }
    }

    public int best(int b, int lines) {
        boolean small = b == 1 && (lines == 1 || lines == 2);
        boolean wide = b == 2 && lines == 1;
        if (!small && !wide) {
            return NONE;
        }
        if (!search.find(sum, b, lines)) {
            return NONE;
        }
        plan.takeNumbers(search.winner);
        forgetPlaces();
        // The search compares without fold, but beats are told by the fold.
        settle();
        return places.beats;
    }

    public int laying(int which, int k) {
        return isIndex(which) && isIndex(k) ? plan.numbers[3 * which + k] : NO_NUMBER;
    }

    public int run() {
        if (reason() != 0) {
            return NONE;
        }
        return latest.work(sum, places);
    }

    public int worked(int beat, int cell, int second) {
        return latest.hasBeat(beat) ? latest.pointAt(places, beat, cell, second) : NONE;
    }

    public int held(int beat) {
        return latest.hasBeat(beat) ? latest.held[beat] : NONE;
    }

    public int value(int v, int i, int j, int k) {
        int code = sum.codeOf(i, j, k);
        if (!latest.there || !sum.has(v) || code == NONE) {
            return 0;
        }
        return latest.values[v * CODES + code];
    }

    public int plain(int v, int i, int j, int k) {
        int code = sum.codeOf(i, j, k);
        if (!sum.has(v) || code == NONE) {
            return 0;
        }
        return sum.plainValue(v, code);
    }

    public int result(int v, int n, int what) {
        if (!sum.has(v) || what < 0 || what > 1) {
            return NONE;
        }
        int code = sum.resultCode(v, n);
        if (code == NONE || what == 0) {
            return code;
        }
        return sum.plainValue(v, code);
    }

    public int about(int what) {
        switch (what) {
            case 0:
                return sum.variables;
            case 1:
                return sum.points;
            case 2:
                return latest.there ? 1 : 0;
            case 3:
                return plan.fold;
            case 10:
            case 11:
            case 12:
                return sum.size[what - 10];
            default:
                return NONE;
        }
    }

    private void forgetPlaces() {
        places.known = false;
        latest.there = false;
    }

    private void settle() {
        if (!places.known) {
            places.place(sum, plan);
        }
    }

    private int reason() {
        if (plan.tooEarly(sum) != NONE) {
            return 1;
        }
        if (plan.tooFar(sum) != NONE) {
            return 2;
        }
        settle();
        return places.later == NONE ? 0 : 3;
    }

    private int culprit(int reason) {
        switch (reason) {
            case 1:
                return plan.tooEarly(sum);
            case 2:
                return plan.tooFar(sum);
            case 3:
                return places.later;
            default:
                return NONE;
        }
    }

    private static boolean isSize(int size) {
        return size >= 1 && size <= MOST_SIZE;
    }

    private static boolean isIndex(int at) {
        return at >= 0 && at <= 2;
    }

    private static boolean within(int most, int i, int j, int k) {
        return i >= -most && i <= most && j >= -most && j <= most && k >= -most && k <= most;
    }

    private static boolean areZeros(int i, int j, int k) {
        return i == 0 && j == 0 && k == 0;
    }

    private static boolean isStep(int i, int j, int k) {
        return within(MOST_STEP, i, j, k) && leadsUp(i, j, k);
    }

    /** Whether the first number that isn't 0 is above 0. */
    private static boolean leadsUp(int i, int j, int k) {
        if (i != 0) {
            return i > 0;
        }
        return j != 0 ? j > 0 : k > 0;
    }

    /** The loops, the variables with their steps, acts and edges, and the plain working. */
    private static final class Sum {
        final int[] size = {1, 1, 1};
        /** The codes of all points, by rank; the first is 0 from the start. */
        final int[] codes = new int[CODES];
        int points = 1;
        int variables = 0;
        final int[] step = new int[3 * MOST_VARIABLES];
        private final int[] acts = new int[MOST_VARIABLES];
        private final int[] left = new int[MOST_VARIABLES];
        private final int[] right = new int[MOST_VARIABLES];
        private final int[] edges = new int[MOST_VARIABLES * CODES];
        private final int[] values = new int[MOST_VARIABLES * CODES];
        private boolean valuesKnown = false;

        void resize(int i, int j, int k) {
            size[0] = i;
            size[1] = j;
            size[2] = k;
            points = 0;
            for (int code = 0; code < CODES; code++) {
                if (codeOf(code >> 6, code >> 3 & 7, code & 7) != NONE) {
                    codes[points] = code;
                    points++;
                }
            }
            Arrays.fill(edges, 0);
            valuesKnown = false;
        }

        int addVariable(int i, int j, int k) {
            int v = variables;
            variables++;
            step[3 * v] = i;
            step[3 * v + 1] = j;
            step[3 * v + 2] = k;
            setAct(v, 0, 0, 0);
            return v;
        }

        void setAct(int v, int act, int a, int b) {
            acts[v] = act;
            left[v] = a;
            right[v] = b;
            valuesKnown = false;
        }

        void setEdge(int v, int code, int value) {
            edges[v * CODES + code] = value;
            valuesKnown = false;
        }

        void dropVariables() {
            variables = 0;
            Arrays.fill(edges, 0);
            valuesKnown = false;
        }

        boolean has(int v) {
            return v >= 0 && v < variables;
        }

        int codeOf(int i, int j, int k) {
            if (i < 0 || i >= size[0] || j < 0 || j >= size[1] || k < 0 || k >= size[2]) {
                return NONE;
            }
            return 64 * i + 8 * j + k;
        }

        boolean isNeeded(int v) {
            for (int d = 0; d < 3; d++) {
                if (Math.abs(step[3 * v + d]) >= size[d]) {
                    return false;
                }
            }
            return true;
        }

        /** The point one step of v on (sign 1) or back (sign -1), or none. */
        int stepped(int v, int code, int sign) {
            int i = (code >> 6) + sign * step[3 * v];
            int j = (code >> 3 & 7) + sign * step[3 * v + 1];
            int k = (code & 7) + sign * step[3 * v + 2];
            return codeOf(i, j, k);
        }

        /** Works all variables at a point; the points that they come from are worked already. */
        void workPoint(int[] rows, int code) {
            for (int v = 0; v < variables; v++) {
                int own = comes(rows, v, code);
                int a = comes(rows, left[v], code);
                int b = comes(rows, right[v], code);
                rows[v * CODES + code] = made(acts[v], own, a, b);
            }
        }

        private int comes(int[] rows, int v, int code) {
            int from = stepped(v, code, -1);
            return from == NONE ? edges[v * CODES + code] : rows[v * CODES + from];
        }

        private static int made(int act, int own, int a, int b) {
            switch (act) {
                case 1:
                    return own + a * b;
                case 2:
                    return Math.min(own, a + b);
                case 3:
                    return Math.min(a, b);
                case 4:
                    return Math.max(a, b);
                case 5:
                    return a + b;
                case 6:
                    return a - b;
                case 7:
                    return a ^ b;
                default:
                    return own;
            }
        }

        int plainValue(int v, int code) {
            if (!valuesKnown) {
                for (int n = 0; n < points; n++) {
                    workPoint(values, codes[n]);
                }
                valuesKnown = true;
            }
            return values[v * CODES + code];
        }

        int resultCode(int v, int n) {
            int seen = 0;
            for (int m = 0; m < points; m++) {
                if (stepped(v, codes[m], 1) == NONE) {
                    if (seen == n) {
                        return codes[m];
                    }
                    seen++;
                }
            }
            return NONE;
        }
    }

    /** The numbers of a laying: time, the first line, the second line; and its fold. */
    private static final class Plan {
        final int[] numbers = {1, 1, 1, 1, 0, 0, 0, 0, 0};
        int fold = 1;

        void put(int which, int i, int j, int k) {
            numbers[3 * which] = i;
            numbers[3 * which + 1] = j;
            numbers[3 * which + 2] = k;
        }

        void takeNumbers(Plan other) {
            System.arraycopy(other.numbers, 0, numbers, 0, numbers.length);
        }

        int times(int which, int i, int j, int k) {
            int at = 3 * which;
            return numbers[at] * i + numbers[at + 1] * j + numbers[at + 2] * k;
        }

        int timesCode(int which, int code) {
            return times(which, code >> 6, code >> 3 & 7, code & 7);
        }

        int least(int which, Sum sum) {
            int least = 0;
            for (int d = 0; d < 3; d++) {
                least += Math.min(0, numbers[3 * which + d] * (sum.size[d] - 1));
            }
            return least;
        }

        int beatsUnfolded(Sum sum) {
            int greatest = 0;
            for (int d = 0; d < 3; d++) {
                greatest += Math.abs(numbers[d]) * (sum.size[d] - 1);
            }
            return greatest + 1;
        }

        int delay(Sum sum, int v) {
            return timesStep(TIME, sum, v);
        }

        int way(Sum sum, int v) {
            return Math.abs(timesStep(FIRST, sum, v)) + Math.abs(timesStep(SECOND, sum, v));
        }

        private int timesStep(int which, Sum sum, int v) {
            int product = 0;
            for (int d = 0; d < 3; d++) {
                product += numbers[3 * which + d] * sum.step[3 * v + d];
            }
            return product;
        }

        /** The least needed variable whose delay is below 1, or none. */
        int tooEarly(Sum sum) {
            for (int v = 0; v < sum.variables; v++) {
                if (sum.isNeeded(v) && delay(sum, v) < 1) {
                    return v;
                }
            }
            return NONE;
        }

        /** The least needed variable whose way is above its delay, or none. */
        int tooFar(Sum sum) {
            for (int v = 0; v < sum.variables; v++) {
                if (sum.isNeeded(v) && way(sum, v) > delay(sum, v)) {
                    return v;
                }
            }
            return NONE;
        }
    }

    /** Where a laying, with its fold, puts each point, and what is told of that. */
    private static final class Places {
        final int[] beat = new int[CODES];
        final int[] cell = new int[CODES];
        final int[] second = new int[CODES];
        boolean known = false;
        int beats;
        int cells;
        /** The least point that meets one ahead of it, and that one; none if none meet. */
        int later = NONE;
        int earlier = NONE;
        /** By cell key 1 + the code of the last point put there; all 0 between two placings. */
        private final int[] last = new int[CELL_KEYS];
        /** By code 1 + the code of the point ahead of it in its cell; 0 if it is the first. */
        private final int[] ahead = new int[CODES];
        /** By how many beats lie between two points of one cell: 1 if some two do so. */
        private final int[] between = new int[MOST_BEATS];

        void place(Sum sum, Plan plan) {
            layPoints(sum, plan);
            beats = 0;
            cells = 0;
            later = NONE;
            earlier = NONE;
            for (int n = 0; n < sum.points; n++) {
                int code = sum.codes[n];
                beats = Math.max(beats, beat[code] + 1);
                link(code);
                // Fold takes no two pairs of beat and cell to one, so this holds without fold too.
                if (later == NONE) {
                    earlier = metBy(code);
                    later = earlier == NONE ? NONE : code;
                }
            }
            for (int n = 0; n < sum.points; n++) {
                last[cellKey(sum.codes[n])] = 0;
            }
            known = true;
        }

        private void layPoints(Sum sum, Plan plan) {
            int leastTime = plan.least(TIME, sum);
            int leastFirst = plan.least(FIRST, sum);
            int leastSecond = plan.least(SECOND, sum);
            int fold = Math.max(1, plan.fold);
            for (int n = 0; n < sum.points; n++) {
                int code = sum.codes[n];
                int line = plan.timesCode(FIRST, code) - leastFirst;
                beat[code] = fold * (plan.timesCode(TIME, code) - leastTime) + line % fold;
                cell[code] = line / fold;
                second[code] = plan.timesCode(SECOND, code) - leastSecond;
            }
        }

        private int cellKey(int code) {
            return 64 * cell[code] + second[code];
        }

        private void link(int code) {
            int key = cellKey(code);
            if (last[key] == 0) {
                cells++;
            }
            ahead[code] = last[key];
            last[key] = code + 1;
        }

        /** A point ahead of this one in its cell with its beat; there is one at most till they meet. */
        private int metBy(int code) {
            int other = ahead[code] - 1;
            for (int n = 0; n < CODES && other != NONE; n++) {
                if (beat[other] == beat[code]) {
                    return other;
                }
                other = ahead[other] - 1;
            }
            return NONE;
        }

        int use(Sum sum) {
            int all = beats * cells;
            return all == 0 ? 0 : 1000 * sum.points / all;
        }

        int apart(Sum sum) {
            if (later != NONE) {
                return NONE;
            }
            Arrays.fill(between, 0);
            for (int n = 0; n < sum.points; n++) {
                markBetween(sum.codes[n]);
            }
            // Two beats are less than all beats apart, so the last n is free at the latest.
            int n = 1;
            while (n < beats && !isFree(n)) {
                n++;
            }
            return n;
        }

        private void markBetween(int code) {
            int other = ahead[code] - 1;
            for (int n = 0; n < CODES && other != NONE; n++) {
                between[Math.abs(beat[code] - beat[other])] = 1;
                other = ahead[other] - 1;
            }
        }

        private boolean isFree(int n) {
            for (int m = 1; m < beats && m * n < beats; m++) {
                if (between[m * n] != 0) {
                    return false;
                }
            }
            return true;
        }
    }

    /** The latest run: what it worked, by beats, and how much it held. */
    private static final class Run {
        boolean there = false;
        final int[] values = new int[MOST_VARIABLES * CODES];
        final int[] held = new int[MOST_BEATS + 1];
        private int beats = 0;
        /** Codes by beat; those of a beat stand from its start to the next one's. */
        private final int[] order = new int[CODES];
        private final int[] start = new int[MOST_BEATS + 1];

        int work(Sum sum, Places places) {
            beats = places.beats;
            sortByBeat(sum, places);
            int worked = 0;
            for (int b = 0; b < beats; b++) {
                for (int n = start[b]; n < start[b + 1]; n++) {
                    sum.workPoint(values, order[n]);
                    worked++;
                }
            }
            countHeld(sum, places);
            there = true;
            return worked;
        }

        private void sortByBeat(Sum sum, Places places) {
            Arrays.fill(start, 0);
            for (int n = 0; n < sum.points; n++) {
                start[places.beat[sum.codes[n]]]++;
            }
            for (int b = 1; b <= beats; b++) {
                start[b] += start[b - 1];
            }
            // Each start is the end of its beat as yet; putting the last points first moves it down.
            for (int n = sum.points - 1; n >= 0; n--) {
                int code = sum.codes[n];
                int b = places.beat[code];
                start[b]--;
                order[start[b]] = code;
            }
        }

        /** A value is held from its own beat to the one before it is taken: up here, down there. */
        private void countHeld(Sum sum, Places places) {
            Arrays.fill(held, 0);
            for (int v = 0; v < sum.variables; v++) {
                for (int n = 0; n < sum.points; n++) {
                    int next = sum.stepped(v, sum.codes[n], 1);
                    if (next != NONE) {
                        held[places.beat[sum.codes[n]]]++;
                        held[places.beat[next]]--;
                    }
                }
            }
            for (int b = 1; b < beats; b++) {
                held[b] += held[b - 1];
            }
        }

        boolean hasBeat(int beat) {
            return there && beat >= 0 && beat < beats;
        }

        int pointAt(Places places, int beat, int cell, int second) {
            for (int n = start[beat]; n < start[beat + 1]; n++) {
                int code = order[n];
                if (places.cell[code] == cell && places.second[code] == second) {
                    return code;
                }
            }
            return NONE;
        }
    }

    /**
     * The search for the best laying: what is right, has fewest beats, fewest cells, all without
     * fold. Points that two vectors don't part lie in rows: from one to the next it is the
     * shortest whole vector across both. So no trial looks at its points.
     */
    private static final class Search {
        final Plan winner = new Plan();
        private int fewestBeats = 0;
        private int fewestCells = 0;
        private boolean found = false;
        private final Plan trial = new Plan();
        private final int[] across = new int[3];

        /** Goes by the numbers, the lower first, so that of equals the first stays. */
        boolean find(Sum sum, int b, int lines) {
            found = false;
            int side = 2 * b + 1;
            int vectors = side * side * side;
            for (int n = 0; n < vectors; n++) {
                spell(TIME, n, b);
                boolean slow = found && trial.beatsUnfolded(sum) > fewestBeats;
                if (!slow && trial.tooEarly(sum) == NONE) {
                    tryLines(sum, b, lines, vectors);
                }
            }
            return found;
        }

        private void tryLines(Sum sum, int b, int lines, int vectors) {
            int zeros = vectors / 2;
            int from = lines == 1 ? zeros : 0;
            int to = lines == 1 ? zeros : vectors - 1;
            int beats = trial.beatsUnfolded(sum);
            for (int n = 0; n < vectors; n++) {
                spell(FIRST, n, b);
                for (int m = from; m <= to && n != zeros; m++) {
                    if (lines == 1 || m != zeros) {
                        spell(SECOND, m, b);
                        consider(sum, beats);
                    }
                }
            }
        }

        private void consider(Sum sum, int beats) {
            if (trial.tooFar(sum) != NONE) {
                return;
            }
            int cells = countCells(sum);
            // A time with more beats than the fewest doesn't come here.
            boolean better = !found || beats < fewestBeats || cells < fewestCells;
            if (better && partsAll(sum, cells)) {
                found = true;
                fewestBeats = beats;
                fewestCells = cells;
                winner.takeNumbers(trial);
            }
        }

        /** The n-th of all vectors with numbers -b .. b. */
        private void spell(int which, int n, int b) {
            int side = Math.max(1, 2 * b + 1);
            trial.put(which, n / (side * side) - b, n / side % side - b, n % side - b);
        }

        /** Whether no two points have one beat and cell. */
        private boolean partsAll(Sum sum, int cells) {
            if (!findAcross(TIME, FIRST)) {
                // A point's cell by the first line tells its beat, so time parts no more than it.
                return cells == sum.points;
            }
            return countBehind(sum) == 0 || trial.times(SECOND, across[0], across[1], across[2]) != 0;
        }

        private int countCells(Sum sum) {
            // Each cell has one row of points, and each row one point with none behind it.
            return findAcross(FIRST, SECOND) ? sum.points - countBehind(sum) : countLine(sum);
        }

        /** The shortest whole vector across two others: false if these lie along one line. */
        private boolean findAcross(int one, int other) {
            int[] all = trial.numbers;
            int a = 3 * one;
            int b = 3 * other;
            int i = all[a + 1] * all[b + 2] - all[a + 2] * all[b + 1];
            int j = all[a + 2] * all[b] - all[a] * all[b + 2];
            int k = all[a] * all[b + 1] - all[a + 1] * all[b];
            int common = commonDivisor(Math.abs(i), commonDivisor(Math.abs(j), Math.abs(k)));
            if (common == 0) {
                return false;
            }
            across[0] = i / common;
            across[1] = j / common;
            across[2] = k / common;
            return true;
        }

        /** How many points have another one behind them in their row. */
        private int countBehind(Sum sum) {
            int count = 1;
            for (int d = 0; d < 3; d++) {
                count *= Math.max(0, sum.size[d] - Math.abs(across[d]));
            }
            return count;
        }

        /** With no second line, or one along the first: bit c tells whether cell c is taken. */
        private int countLine(Sum sum) {
            long taken = 1L;
            for (int d = 0; d < 3; d++) {
                int stride = Math.abs(trial.numbers[3 + d]);
                for (int n = 1; n < sum.size[d]; n++) {
                    taken |= taken << stride;
                }
            }
            return Long.bitCount(taken);
        }

        private static int commonDivisor(int a, int b) {
            int greater = a;
            int lesser = b;
            for (int n = 0; n < 64 && lesser != 0; n++) {
                int rest = greater % lesser;
                greater = lesser;
                lesser = rest;
            }
            return greater;
        }
    }
}
