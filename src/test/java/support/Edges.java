import java.util.ArrayList;
import java.util.List;
import java.util.function.IntToLongFunction;

/** Sentences of the document that name a boundary case, each with a test of its own that fails if the sentence is broken. */
final class Edges {
    static final int NONE = PrimeBlocks.NONE;
    static final int NO_CHARACTER = PrimeBlocks.NONE - 1000;
    static final int LOW = Integer.MIN_VALUE;
    static final int HIGH = Integer.MAX_VALUE;
    static final int[] PRIMES = {2, 3, 5, 7};

    private static final class Edge {
        final String name;
        final String sentence;
        final Runnable test;

        Edge(String name, String sentence, Runnable test) {
            this.name = name;
            this.sentence = sentence;
            this.test = test;
        }
    }

    private final List<Edge> edges = new ArrayList<>();

    /** A sentence as the document has it, and a short name for it. */
    void add(String name, String sentence, Runnable test) {
        edges.add(new Edge(name, sentence, test));
    }

    /** Runs the tests of all sentences, tells those that are broken, and ends. */
    void run() {
        for (Edge edge : edges) {
            int askedBefore = Check.asked();
            int wrongBefore = Check.wrong();
            runOne(edge);
            Check.due("'" + edge.name + "' asks something", Check.asked() > askedBefore, true);
            if (Check.wrong() > wrongBefore) {
                System.out.println("BROKEN: " + edge.name + ": \"" + edge.sentence + "\"");
            }
        }
        System.out.println(edges.size() + " sentences");
        Check.finish();
    }

    /** No call may throw; one that does breaks its own sentence, and the others are still looked at. */
    private static void runOne(Edge edge) {
        try {
            edge.test.run();
        } catch (RuntimeException thrown) {
            Check.due("'" + edge.name + "' threw " + thrown + " at " + thrown.getStackTrace()[0], true, false);
        }
    }

    static PrimeBlocks in(int n, int p) {
        PrimeBlocks x = new PrimeBlocks();
        x.group(n, p);
        return x;
    }

    /** The answers to 0, 1, 2 .. must be these. */
    static void dueRow(String call, IntToLongFunction answer, long... due) {
        for (int i = 0; i < due.length; i++) {
            Check.due(call + " of " + i, answer.applyAsLong(i), due[i]);
        }
    }

    /** There must be this one answer to all these numbers. */
    static void dueForAll(String call, long due, IntToLongFunction answer, int... numbers) {
        for (int number : numbers) {
            Check.due(call + " of " + number, answer.applyAsLong(number), due);
        }
    }

    interface GroupTest {
        void look(Tables x, int n, int p);
    }

    static void forAllGroups(GroupTest test) {
        for (int n = 1; n <= 6; n++) {
            for (int p : PRIMES) {
                test.look(new Tables(n, p), n, p);
            }
        }
    }
}
