import java.math.BigInteger;
import java.util.Arrays;
import java.util.Random;

/** Made-up texts against TextModel, and what is told of their functions against plain sums: promises 5, 6, 20 to 25. */
public final class TextTest {
    private static final int[] PRIMES = {2, 3, 5, 7};
    private static final int[] FOUND = new int[7];
    private static int cutsTaken;
    private static int cutsRefused;

    private final Random random;
    private final PrimeBlocks x = new PrimeBlocks();
    private final Tables tables;
    private final BigInteger[][] slots = new BigInteger[6][];
    private final int n;
    private final int p;
    private final int classes;
    /** Whether the text that is made up now has great numbers, so that the limit is met. */
    private boolean great;
    /** The slot that has the latest text's function. */
    private int latest;

    private TextTest(int seed) {
        random = new Random(seed);
        n = 1 + random.nextInt(6);
        p = PRIMES[random.nextInt(4)];
        tables = new Tables(n, p);
        classes = tables.look(2);
        Check.due("group", x.group(n, p), classes);
        for (int slot = 0; slot < 6; slot++) {
            slots[slot] = new BigInteger[classes];
            Arrays.fill(slots[slot], BigInteger.ZERO);
        }
    }

    public static void main(String[] args) {
        for (int seed = 0; seed < 9000; seed++) {
            new TextTest(seed).run();
        }
        for (int fault = 0; fault < FOUND.length; fault++) {
            Check.due("fault " + fault + " was met often", FOUND[fault] > 100, true);
        }
        Check.due("cuts were taken often", cutsTaken > 100, true);
        Check.due("cuts were refused often", cutsRefused > 100, true);
        Check.finish();
    }

    private void run() {
        // Three turns stay under the 512 calls for which an object is used.
        for (int i = 0; i < 3; i++) {
            great = random.nextInt(3) == 0;
            String text = sum(0);
            if (random.nextInt(3) == 0) {
                text = spoil(text);
            }
            if (text.length() <= 200) {
                compare(text);
            }
            compareCut();
        }
        compareLook();
    }

    private String sum(int depth) {
        StringBuilder text = new StringBuilder(term(depth));
        for (int i = random.nextInt(3); i > 0; i--) {
            text.append(blanks()).append(random.nextBoolean() ? '+' : '-').append(term(depth));
        }
        return text.append(blanks()).toString();
    }

    private String term(int depth) {
        StringBuilder text = new StringBuilder(factor(depth));
        for (int i = random.nextInt(5) - (great ? 0 : 2); i > 0; i--) {
            text.append(blanks()).append('*').append(factor(depth));
        }
        return text.toString();
    }

    private String factor(int depth) {
        String begin = blanks();
        if (great && random.nextInt(3) > 0) {
            return begin + (random.nextBoolean() ? "X" + random.nextInt(6) : 10000 - random.nextInt(3) * random.nextInt(5000) - 1);
        }
        switch (random.nextInt(depth > 4 ? 6 : 9)) {
            case 0:
                return begin + random.nextInt(random.nextBoolean() ? 10 : 10000);
            case 1:
                return begin + "S";
            case 2:
                return begin + "X" + blanks() + random.nextInt(random.nextInt(20) == 0 ? 9 : 6);
            case 3:
            case 4:
            case 5:
                return begin + letter() + blanks() + partition();
            default:
                return begin + "(" + sum(depth + 1) + ")";
        }
    }

    private String letter() {
        String[] letters = {"", "D", "P", "M"};
        return letters[random.nextInt(4)];
    }

    private String partition() {
        int k = random.nextInt(random.nextInt(3) == 0 ? classes : (classes + 1) / 2);
        StringBuilder text = new StringBuilder("[");
        for (int i = 0; i < tables.partition(k, -1); i++) {
            int part = tables.partition(k, i);
            part += random.nextInt(60) == 0 ? random.nextInt(3) - 1 : 0;
            text.append(i > 0 ? "," : "").append(blanks()).append(Math.max(part, 0)).append(blanks());
        }
        if (random.nextInt(60) == 0) {
            text.append(",0");
        }
        return text.append("]").toString();
    }

    private String blanks() {
        switch (random.nextInt(12)) {
            case 0:
                return " ";
            case 1:
                return "\n";
            case 2:
                return " \n ";
            default:
                return "";
        }
    }

    private String spoil(String text) {
        String signs = "+-*()[],DPMSX0123456789 \n?\t" + (char) 0 + (char) 200 + (char) 255;
        StringBuilder spoilt = new StringBuilder(text);
        int place = random.nextInt(text.length());
        switch (random.nextInt(4)) {
            case 0:
                spoilt.deleteCharAt(place);
                break;
            case 1:
                spoilt.insert(place, signs.charAt(random.nextInt(signs.length())));
                break;
            case 2:
                spoilt.setCharAt(place, signs.charAt(random.nextInt(signs.length())));
                break;
            default:
                spoilt.setLength(place);
        }
        return spoilt.toString();
    }

    private void compare(String text) {
        int slot = random.nextInt(6);
        TextModel model = new TextModel(text, tables, slots);
        FOUND[model.fault]++;
        String call = "group(" + n + ", " + p + ") text '" + text + "'";
        Check.due(call, Check.read(x, text, slot), model.fault == 0 ? 0 : -1);
        Check.due(call + " look(6)", x.look(6), 0);
        Check.due(call + " fault(0)", x.fault(0), model.fault);
        Check.due(call + " fault(1)", x.fault(1), model.place);
        Check.due(call + " fault(2)", x.fault(2), model.within.size());
        for (int i = 0; i < 16; i++) {
            Check.due(call + " fault(" + (10 + i) + ")", x.fault(10 + i), i < model.within.size() ? model.within.get(i) : -1);
        }
        if (model.fault == 0) {
            slots[slot] = model.function;
            latest = slot;
        }
        compareSlot(call, slot);
    }

    private void compareSlot(String call, int slot) {
        for (int c = 0; c < classes; c++) {
            Check.due(call + " value", x.value(slot, c), slots[slot][c].longValueExact());
        }
        boolean[] kinds = {true, true, true, true, true};
        for (int c = 0; c < classes; c++) {
            kinds[0] &= tables.classOf(c, 2) == 1 || slots[slot][c].signum() == 0;
        }
        for (int k = 0; k < classes; k++) {
            for (int modular = 0; modular < 2; modular++) {
                if (modular == 1 && tables.of(k, 0) == 0) {
                    Check.due(call + " parts", x.parts(slot, k, 1), Long.MIN_VALUE);
                    Check.due(call + " parts", x.parts(slot, k, 3), Long.MIN_VALUE);
                    continue;
                }
                BigInteger above = timesFactorial(slot, k, modular == 1);
                BigInteger below = BigInteger.valueOf(tables.look(5));
                BigInteger common = above.gcd(below);
                Check.due(call + " parts", x.parts(slot, k, modular), above.divide(common).longValueExact());
                Check.due(call + " parts", x.parts(slot, k, 2 + modular), below.divide(common).longValueExact());
                boolean whole = common.equals(below);
                kinds[1 + 2 * modular] &= whole;
                kinds[2 + 2 * modular] &= whole && above.signum() >= 0;
            }
        }
        for (int what = 0; what < 5; what++) {
            Check.due(call + " kind(" + what + ")", x.kind(slot, what), kinds[what] ? 1 : 0);
        }
        int other = random.nextInt(6);
        BigInteger inner = BigInteger.ZERO;
        for (int c = 0; c < classes; c++) {
            inner = inner.add(slots[slot][c].multiply(slots[other][c]).multiply(BigInteger.valueOf(tables.classOf(c, 0))));
        }
        Check.due(call + " inner", x.inner(slot, other), inner.longValue());
    }

    private BigInteger timesFactorial(int slot, int k, boolean modular) {
        BigInteger sum = BigInteger.ZERO;
        for (int c = 0; c < classes; c++) {
            if (modular && tables.classOf(c, 2) == 0) {
                continue;
            }
            int row = modular ? tables.projective(k, c) : tables.character(k, c);
            sum = sum.add(slots[slot][c].multiply(BigInteger.valueOf((long) row * tables.classOf(c, 0))));
        }
        return sum;
    }

    private void compareCut() {
        int slot = latest;
        int into = random.nextInt(6);
        int b = random.nextInt(tables.look(4));
        BigInteger factorial = BigInteger.valueOf(tables.look(5));
        BigInteger[] due = new BigInteger[classes];
        Arrays.fill(due, BigInteger.ZERO);
        boolean whole = true;
        for (int k = 0; k < classes; k++) {
            if (tables.of(k, 2) == b) {
                BigInteger[] times = timesFactorial(slot, k, false).divideAndRemainder(factorial);
                whole &= times[1].signum() == 0;
                for (int c = 0; c < classes; c++) {
                    due[c] = due[c].add(times[0].multiply(BigInteger.valueOf(tables.character(k, c))));
                }
            }
        }
        cutsTaken += whole ? 1 : 0;
        cutsRefused += whole ? 0 : 1;
        Check.due("cut", x.cut(slot, b, into), whole ? 0 : -1);
        if (whole) {
            slots[into] = due;
        }
        compareSlot("cut", into);
    }

    private void compareLook() {
        int bits = 0;
        for (int slot = 0; slot < 6; slot++) {
            for (BigInteger number : slots[slot]) {
                bits |= number.signum() != 0 ? 1 << slot : 0;
            }
        }
        Check.due("look(7)", x.look(7), bits);
    }
}
