import java.lang.management.ManagementFactory;
import java.util.Random;

/** Any arguments in any state end without an exception, and what a run of 512 calls makes stays small. */
public final class RoomTest {
    private static final int CALLS = 512;
    /** The room holds some 7.3 million fields and elements and 600,000 objects; a run stays far below a tenth of it. */
    private static final long MOST_BYTES = 600_000;
    private static final int[] PRIMES = {2, 3, 5, 7};
    private static final int[] EDGES = {Integer.MIN_VALUE, -1002, -2, -1, 0, 1, 2, 3, 4, 5, 6, 7, 8, 9, 10, 11, 12, 20, 24, 25, 199,
        200, 201, Integer.MAX_VALUE};

    private final Random random;
    private final PrimeBlocks x = new PrimeBlocks();

    private RoomTest(int seed) {
        random = new Random(seed);
    }

    public static void main(String[] args) {
        for (int seed = 0; seed < 1500; seed++) {
            int first = new RoomTest(seed).run();
            Check.due("the same calls give the same answers", new RoomTest(seed).run(), first);
        }
        Check.due("bytes for groups to and fro", bytesOf(RoomTest::changeGroups) < MOST_BYTES, true);
        Check.due("bytes for texts", bytesOf(RoomTest::readTexts) < MOST_BYTES, true);
        Check.due("bytes for any calls", bytesOf(() -> new RoomTest(5).run()) < MOST_BYTES, true);
        Check.finish();
    }

    private static long bytesOf(Runnable run) {
        com.sun.management.ThreadMXBean threads = (com.sun.management.ThreadMXBean) ManagementFactory.getThreadMXBean();
        long thread = Thread.currentThread().getId();
        run.run();
        long before = threads.getThreadAllocatedBytes(thread);
        run.run();
        return threads.getThreadAllocatedBytes(thread) - before;
    }

    private static void changeGroups() {
        PrimeBlocks x = new PrimeBlocks();
        for (int i = 0; i < CALLS; i++) {
            x.group(i % 6 + 1, PRIMES[i / 6 % 4]);
        }
    }

    private static void readTexts() {
        PrimeBlocks x = new PrimeBlocks();
        x.group(6, 2);
        for (int i = 2; i < CALLS; i += 2) {
            x.feed(0x582B582B, 0x582B582B, 0x53285328, 0x53285329, 0x29202020);
            x.text(i % 6);
        }
    }

    private int number() {
        return random.nextInt(40) == 0 ? random.nextInt() : EDGES[random.nextInt(EDGES.length)];
    }

    private int sign() {
        String signs = "+-*()[],DPMSX0123456 \n";
        return random.nextInt(60) == 0 ? random.nextInt(256) : signs.charAt(random.nextInt(signs.length()));
    }

    private int signs() {
        return sign() << 24 | sign() << 16 | sign() << 8 | sign();
    }

    private int run() {
        long all = 0;
        for (int i = 0; i < CALLS; i++) {
            all = all * 31 + call();
        }
        return (int) (all ^ all >>> 32);
    }

    private long call() {
        switch (random.nextInt(26)) {
            case 0:
                return x.group(1 + random.nextInt(6), PRIMES[random.nextInt(4)]);
            case 1:
                return x.group(number(), number());
            case 2:
                return x.feed(signs(), signs(), signs(), signs(), signs());
            case 3:
                return x.end(number()) ? 1 : 0;
            case 4:
                return x.text(number());
            case 5:
                return x.fault(number());
            case 6:
                return x.partition(number(), number());
            case 7:
                return x.of(number(), number());
            case 8:
                return x.core(number(), number());
            case 9:
                return x.hook(number(), number(), number());
            case 10:
                return x.classOf(number(), number());
            case 11:
                return x.character(number(), number());
            case 12:
                return x.modular(number(), number());
            case 13:
                return x.projective(number(), number());
            case 14:
                return x.decomposition(number(), number());
            case 15:
                return x.cartan(number(), number());
            case 16:
                return x.tableau(number(), number(), number(), number());
            default:
                return callFunctions();
        }
    }

    private long callFunctions() {
        switch (random.nextInt(8)) {
            case 0:
                return x.gram(number(), number(), number());
            case 1:
                return x.block(number(), number());
            case 2:
                return x.value(number(), number());
            case 3:
                return x.parts(number(), number(), number());
            case 4:
                return x.inner(number(), number());
            case 5:
                return x.kind(number(), number());
            case 6:
                return x.cut(number(), number(), number());
            default:
                return x.look(number());
        }
    }
}
