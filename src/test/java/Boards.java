/** Boards in different states, each made anew: what a refused call is tried on. */
enum Boards {
    /** As the constructor makes it. */
    NEW,
    /** Three variables on a grid of cells, run. */
    PRODUCT,
    /** Four variables, folded, run. */
    FULL,
    /** A laying that isn't RIGHT, so no run. */
    WRONG,
    /** No variables, folded, run. */
    EMPTY;

    /** No board here has been told more. */
    static final int MOST_TOLD = 70;

    PulseBoard make() {
        PulseBoard x = new PulseBoard();
        switch (this) {
            case PRODUCT:
                tellProduct(x);
                x.lay(2, 0, 1, 0);
                x.run();
                break;
            case FULL:
                tellFull(x);
                x.run();
                break;
            case WRONG:
                tellProduct(x);
                break;
            case EMPTY:
                x.sizes(1, 3, 2);
                x.lay(0, 0, 1, 0);
                x.lay(1, 0, 0, 1);
                x.fold(3);
                x.run();
                break;
            default:
                break;
        }
        return x;
    }

    private static void tellProduct(PulseBoard x) {
        x.sizes(2, 2, 2);
        x.variable(0, 1, 0);
        x.variable(1, 0, 0);
        x.variable(0, 0, 1);
        x.act(2, 1, 0, 1);
        tellEdges(x, 3, 2, 2, 2);
    }

    private static void tellFull(PulseBoard x) {
        x.sizes(2, 3, 2);
        x.variable(1, 0, 0);
        x.variable(0, 1, 0);
        x.variable(0, 0, 1);
        x.variable(1, -1, 1);
        x.act(0, 6, 3, 1);
        x.act(1, 1, 0, 2);
        x.act(2, 4, 2, 3);
        x.act(3, 7, 0, 1);
        x.lay(0, 2, 1, 1);
        x.lay(2, 0, 1, 0);
        x.fold(2);
        tellEdges(x, 4, 2, 3, 2);
    }

    /** Another number at each point, so that each edge that is lost is seen. */
    private static void tellEdges(PulseBoard x, int variables, int i, int j, int k) {
        for (int n = 0; n < variables * i * j * k; n++) {
            x.edge(n / (i * j * k), n / (j * k) % i, n / k % j, n % k, 3 * n * n + 1);
        }
    }

    /** Tells some more: what a refused call has half done comes out then. */
    static PulseBoard goOn(PulseBoard x) {
        x.variable(0, 1, 1);
        x.act(0, 5, 0, 0);
        x.edge(0, 0, 0, 0, 77);
        x.run();
        return x;
    }
}
