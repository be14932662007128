/** The tables of a group: asks a new object as soon as the one before has had its calls, since 512 are all that is promised. */
final class Tables {
    private static final int MOST_CALLS = 512;

    final int n;
    final int p;
    /** Whether each object has been in all groups before, as often as calls allow, so that what it keeps of them is met. */
    private final boolean travelled;
    private PrimeBlocks object;
    private int callsLeft;

    Tables(int n, int p) {
        this(n, p, false);
    }

    Tables(int n, int p, boolean travelled) {
        this.n = n;
        this.p = p;
        this.travelled = travelled;
    }

    private PrimeBlocks next() {
        if (callsLeft == 0) {
            object = new PrimeBlocks();
            callsLeft = MOST_CALLS;
            for (int other = 0; travelled && other < 24; other++) {
                object.group(1 + other % 6, Edges.PRIMES[other / 6]);
                callsLeft--;
            }
            object.group(n, p);
            callsLeft--;
        }
        callsLeft--;
        return object;
    }

    int partition(int k, int i) {
        return next().partition(k, i);
    }

    int of(int k, int what) {
        return next().of(k, what);
    }

    int core(int k, int i) {
        return next().core(k, i);
    }

    int hook(int k, int row, int column) {
        return next().hook(k, row, column);
    }

    int classOf(int k, int what) {
        return next().classOf(k, what);
    }

    int character(int k, int at) {
        return next().character(k, at);
    }

    int modular(int k, int at) {
        return next().modular(k, at);
    }

    int projective(int k, int at) {
        return next().projective(k, at);
    }

    int decomposition(int k, int by) {
        return next().decomposition(k, by);
    }

    int cartan(int k, int other) {
        return next().cartan(k, other);
    }

    int tableau(int k, int t, int row, int column) {
        return next().tableau(k, t, row, column);
    }

    int gram(int k, int t, int other) {
        return next().gram(k, t, other);
    }

    int block(int b, int what) {
        return next().block(b, what);
    }

    int look(int what) {
        return next().look(what);
    }
}
