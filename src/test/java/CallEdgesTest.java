/** Boundary cases of promises 1 to 6, 20 to 25: what changes an object, and what tells of its functions and state. */
public final class CallEdgesTest {
    private static final int NONE = PrimeBlocks.NONE;
    private static final int LOW = Edges.LOW;
    private static final int HIGH = Edges.HIGH;
    private static final long NO_LONG = Long.MIN_VALUE;
    private static final int[] NO_SLOTS = {-1, -2, 6, 7, 100, LOW, HIGH};

    public static void main(String[] args) {
        edges().run();
    }

    static Edges edges() {
        Edges all = new Edges();
        all.add("1 new", "PrimeBlocks(): n 3, p 2", CallEdgesTest::newObject);
        addGroup(all);
        addTape(all);
        addText(all);
        addFunctions(all);
        addCut(all);
        addLook(all);
        return all;
    }

    private static void addGroup(Edges all) {
        all.add("2 group", "A GROUP: how many PARTITIONS", CallEdgesTest::howManyPartitions);
        all.add("2 group refused", "NONE, and nothing changes: another n, p", CallEdgesTest::groupRefused);
    }

    private static void addTape(Edges all) {
        all.add("3 feed", "Twenty bytes come behind THE TAPE, four of each number, the highest first: how many it has", CallEdgesTest::feed);
        all.add("3 feed refused", "NONE, and none come, if there would be more than 200", CallEdgesTest::feedRefused);
        all.add("4 end", "THE TAPE has its first n bytes alone: true", CallEdgesTest::end);
        all.add("4 end refused", "false if it has not so many, or n is below 0", CallEdgesTest::endRefused);
    }

    private static void addText(Edges all) {
        all.add("5 text empties", "THE TAPE (empty then, in any case) is a TEXT", CallEdgesTest::tapeIsEmpty);
        all.add("5 text", "its FUNCTION comes into a SLOT: 0", CallEdgesTest::textTaken);
        all.add("5 text refused", "NONE: a FAULT (the SLOT stays)", CallEdgesTest::slotStays);
        all.add("5 text without slot", "-2: no such SLOT (no FAULT)", CallEdgesTest::noSlot);
        all.add("6 latest fault", "Of the latest text() what 0 its FAULT (0 without), 1 its place (NONE), 2 how many places WITHIN has (0), "
            + "10 and i the i-th of these", CallEdgesTest::latestFault);
        all.add("6 no such fault", "NONE if there is none such, or another what", CallEdgesTest::noSuchFault);
    }

    private static void addFunctions(Edges all) {
        all.add("20 value", "A FUNCTION at a CLASS", CallEdgesTest::values);
        all.add("20 no value", "Long.MIN_VALUE if there are none such", CallEdgesTest::noValues);
        all.add("21 parts", "How often an ordinary CHARACTER (what 0), a MODULAR one (1) is in a FUNCTION: above", CallEdgesTest::partsAbove);
        all.add("21 lowest terms", "what 2, 3: likewise below, in lowest terms", CallEdgesTest::partsBelow);
        all.add("21 no parts", "Long.MIN_VALUE if there are none such (MODULAR: REGULAR PARTITIONS), or another what", CallEdgesTest::noParts);
        all.add("22 inner", "Sum over all permutations of the products of two FUNCTIONS (longs, which wrap)", CallEdgesTest::innerSums);
        all.add("22 no inner", "NONE if there are none such", CallEdgesTest::noInner);
        all.add("23 kind 0", "0 whether it is 0 at CLASSES that are not REGULAR (1, 0)", CallEdgesTest::zeroOffRegular);
        all.add("23 kind 1", "1 whether ordinary CHARACTERS are in it whole times", CallEdgesTest::ordinaryWhole);
        all.add("23 kind 2", "2 those and not below 0", CallEdgesTest::ordinaryNotBelow);
        all.add("23 kind 3", "3 likewise MODULAR ones whole times", CallEdgesTest::modularWhole);
        all.add("23 kind 4", "4 not below 0", CallEdgesTest::modularNotBelow);
        all.add("23 no kind", "NONE if there is none such, or another what", CallEdgesTest::noKind);
    }

    private static void addCut(Edges all) {
        all.add("24 cut", "The ordinary FUNCTION of a SLOT turned to one of a BLOCK alone (of all PARTITIONS of it the CHARACTERS as often as in it",
            CallEdgesTest::cuts);
        all.add("24 cut whole", "how often must be whole for all)", CallEdgesTest::cutsWhole);
        all.add("24 cut into", "comes into a SLOT: 0", CallEdgesTest::cutsInto);
        all.add("24 cut refused", "NONE if there is none such, or one isn't whole", CallEdgesTest::cutsRefused);
    }

    private static void addLook(Edges all) {
        all.add("25 look", "0 n, 1 p, 2 PARTITIONS, 3 REGULAR ones, 4 BLOCKS, 5 n!", CallEdgesTest::looks);
        all.add("25 look bytes", "6 bytes of THE TAPE", CallEdgesTest::bytes);
        all.add("25 look slots", "7 SLOTS that are not 0 at all CLASSES (bits)", CallEdgesTest::slotBits);
        all.add("25 look defects", "8 BLOCKS of DEFECT 0", CallEdgesTest::blocksWithoutDefect);
        all.add("25 no look", "NONE for another what", CallEdgesTest::noLook);
    }

    private static PrimeBlocks with(String text, int slot) {
        PrimeBlocks x = new PrimeBlocks();
        Check.due("text '" + text + "'", Check.read(x, text, slot), 0);
        return x;
    }

    private static void newObject() {
        PrimeBlocks x = new PrimeBlocks();
        Edges.dueRow("look", x::look, 3, 2, 3, 2, 2, 6, 0, 0, 1, NONE);
        Edges.dueRow("fault", x::fault, 0, NONE, 0, NONE);
        Check.due("end(0)", x.end(0), true);
        Check.due("end(1)", x.end(1), false);
        // Another object's doings are not its own.
        PrimeBlocks other = with("5", 0);
        other.group(6, 7);
        Check.due("look(0)", x.look(0), 3);
        Check.due("value(0, 0)", x.value(0, 0), 0);
        Check.due("projective(0, 2)", x.projective(0, 2), 2);
    }

    private static void howManyPartitions() {
        for (int p : Edges.PRIMES) {
            PrimeBlocks x = new PrimeBlocks();
            Edges.dueRow("group(1 + i, " + p + ")", i -> x.group(1 + i, p), 1, 2, 3, 5, 7, 11);
            Check.due("look(0)", x.look(0), 6);
            Check.due("look(1)", x.look(1), p);
            Check.due("the same again", x.group(6, p), 11);
            Check.due("and back", x.group(1, p), 1);
            Check.due("look(0)", x.look(0), 1);
            Check.due("partition(1, 0)", x.partition(1, 0), NONE);
        }
    }

    private static void groupRefused() {
        int[][] wrong = {{0, 2}, {7, 2}, {-1, 3}, {4, 1}, {4, 4}, {4, 0}, {4, 6}, {4, 9}, {4, 11}, {4, -3}, {7, 7}, {0, 0}, {LOW, 2}, {HIGH, 2}, {3, LOW},
            {3, HIGH}};
        for (int[] pair : wrong) {
            PrimeBlocks x = new PrimeBlocks();
            x.group(4, 3);
            Check.due("text", Check.read(x, "S+6", 2), 0);
            Check.dueFault(x, "1+[5]", 2, 2, 2, 2, 0);
            Check.type(x, "S+");
            Check.due("group(" + pair[0] + ", " + pair[1] + ")", x.group(pair[0], pair[1]), NONE);
            Edges.dueRow("look", x::look, 4, 3, 5, 4, 3, 24, 2, 4, 2);
            Edges.dueRow("value", c -> x.value(2, c), 5, 7, 7, 5, 7);
            Edges.dueRow("fault", x::fault, 2, 2, 3);
            Edges.dueRow("fault(10 + i)", i -> x.fault(10 + i), 2, 2, 0, NONE);
            Check.due("the tape is as it was", x.text(0), NONE);
            Check.due("fault(1)", x.fault(1), 2);
        }
    }

    private static void feed() {
        PrimeBlocks x = new PrimeBlocks();
        Check.due("feed", x.feed(0x31302A32, 0x30302B33, 0x2A34302D, 0x35302A53, 0x2B582020), 20);
        Check.due("feed", x.feed(0x30202020, 0x20202020, 0x20202020, 0x20202020, 0x2020203F), 40);
        Check.due("look(6)", x.look(6), 40);
        // 10*200+3*40-50*S+X  0 .. ?
        Check.due("the last byte is met", x.text(0), NONE);
        Check.due("fault(1)", x.fault(1), 39);
        x.feed(0x31302A32, 0x30302B33, 0x2A34302D, 0x35302A53, 0x2B582020);
        x.feed(0x30202020, 0x20202020, 0x20202020, 0x20202020, 0x2020203F);
        Check.due("end", x.end(39), true);
        Check.due("text", x.text(0), 0);
        Edges.dueRow("value", c -> x.value(0, c), 2070, 2170, 2070);
        // Bytes above 127, in numbers below 0.
        int[] bytes = {0, 0x80, 0xFF, 0xB1, 0xA0};
        for (int sign : bytes) {
            Check.due("feed", x.feed(0x20202020, 0x20202020, sign << 24 | 0x202020, 0x20202020, 0x20202020), 20);
            Check.due("text", x.text(0), NONE);
            Check.due("fault(1)", x.fault(1), 8);
        }
        // Behind what end() left, not behind what was there before.
        x.feed(0x3F3F3F3F, 0x3F3F3F3F, 0x3F3F3F3F, 0x3F3F3F3F, 0x3F3F3F3F);
        x.end(0);
        Check.due("feed", x.feed(0x37202020, 0x20202020, 0x20202020, 0x20202020, 0x20202020), 20);
        Check.due("text", x.text(0), 0);
        Check.due("value", x.value(0, 0), 7);
    }

    private static void feedRefused() {
        PrimeBlocks x = new PrimeBlocks();
        Edges.dueRow("feed", i -> x.feed(0x20202020, 0x20202020, 0x20202020, 0x20202020, 0x20202020),
            20, 40, 60, 80, 100, 120, 140, 160, 180, 200, NONE, NONE);
        Check.due("look(6)", x.look(6), 200);
        for (int length = 181; length <= 200; length++) {
            PrimeBlocks y = new PrimeBlocks();
            Check.type(y, "7" + " ".repeat(length - 1));
            Check.due("feed behind " + length, y.feed(0x3F3F3F3F, 0x3F3F3F3F, 0x3F3F3F3F, 0x3F3F3F3F, 0x3F3F3F3F), NONE);
            Check.due("look(6)", y.look(6), length);
            Check.due("none came", y.text(0), 0);
            Check.due("value", y.value(0, 0), 7);
        }
        PrimeBlocks z = new PrimeBlocks();
        Check.type(z, " ".repeat(180));
        Check.due("feed to 200", z.feed(0x20202020, 0x20202020, 0x20202020, 0x20202020, 0x20202037), 200);
        Check.due("text", z.text(0), 0);
        Check.due("value", z.value(0, 0), 7);
    }

    private static void end() {
        PrimeBlocks x = new PrimeBlocks();
        Check.due("end(0) of none", x.end(0), true);
        x.feed(0x31323334, 0x3F3F3F3F, 0x3F3F3F3F, 0x3F3F3F3F, 0x3F3F3F3F);
        Check.due("end(20): all", x.end(20), true);
        Check.due("look(6)", x.look(6), 20);
        Check.due("end(4)", x.end(4), true);
        Check.due("look(6)", x.look(6), 4);
        Check.due("end(3)", x.end(3), true);
        Check.due("text", x.text(0), 0);
        Check.due("the first ones are left", x.value(0, 0), 123);
        x.feed(0x3F3F3F3F, 0x3F3F3F3F, 0x3F3F3F3F, 0x3F3F3F3F, 0x3F3F3F3F);
        Check.due("end(0)", x.end(0), true);
        Check.due("look(6)", x.look(6), 0);
        Check.due("end(0) again", x.end(0), true);
        for (int i = 0; i < 10; i++) {
            x.feed(0, 0, 0, 0, 0);
        }
        Check.due("end(200)", x.end(200), true);
        Check.due("end(199)", x.end(199), true);
        Check.due("look(6)", x.look(6), 199);
    }

    private static void endRefused() {
        PrimeBlocks x = new PrimeBlocks();
        Edges.dueForAll("end", 0, n -> x.end(n) ? 1 : 0, 1, -1, 200, LOW, HIGH);
        x.feed(0x37202020, 0x20202020, 0x20202020, 0x20202020, 0x20202020);
        Edges.dueForAll("end", 0, n -> x.end(n) ? 1 : 0, 21, 40, 200, 201, -1, -20, LOW, HIGH);
        Check.due("the tape stays", x.look(6), 20);
        Check.due("end(19)", x.end(19), true);
        Check.due("what has gone comes no more", x.end(20), false);
        Check.due("text", x.text(0), 0);
        Check.due("the tape is empty", x.end(1), false);
    }

    private static void tapeIsEmpty() {
        PrimeBlocks x = new PrimeBlocks();
        String[] texts = {"1", "?", "X9", "(((((", "", "[9]", "9999*9999*9999*9999"};
        for (String text : texts) {
            Check.read(x, text, 0);
            Check.due("empty behind '" + text + "'", x.look(6), 0);
            Check.due("end(1)", x.end(1), false);
        }
        for (int slot : NO_SLOTS) {
            Check.due("text(" + slot + ")", Check.read(x, "1", slot), -2);
            Check.due("empty", x.look(6), 0);
        }
        // Nothing is left of it for the next one.
        Check.read(x, "1+1", 0);
        Check.due("an empty tape is no text", x.text(0), NONE);
        Check.due("fault(0)", x.fault(0), 1);
        Check.due("fault(1)", x.fault(1), 0);
        Check.read(x, "1", NONE);
        Check.due("text", Check.read(x, "7", 0), 0);
        Check.due("value", x.value(0, 0), 7);
    }

    private static void textTaken() {
        PrimeBlocks x = new PrimeBlocks();
        Check.due("text(0)", Check.read(x, "S", 0), 0);
        Check.due("text(5)", Check.read(x, "S+1", 5), 0);
        Edges.dueRow("value(0, c)", c -> x.value(0, c), 1, -1, 1);
        Edges.dueRow("value(5, c)", c -> x.value(5, c), 2, 0, 2);
        Check.due("no other one", x.look(7), 33);
        Check.due("text", Check.read(x, "0", 5), 0);
        Check.due("what was there has gone", x.look(7), 1);
    }

    private static void slotStays() {
        String[] texts = {"?", "1+", "[9]", "1+D[1,1,1]", "2*X6", "(((((1)))))", "9999*9999*9999*9999", ""};
        for (String text : texts) {
            PrimeBlocks x = with("S+4", 3);
            Check.due("text '" + text + "'", Check.read(x, text, 3), NONE);
            Edges.dueRow("value(3, c) behind '" + text + "'", c -> x.value(3, c), 5, 3, 5);
            Check.due("look(7)", x.look(7), 8);
        }
    }

    private static void noSlot() {
        for (int slot : NO_SLOTS) {
            for (String text : new String[] {"1", "?", "X9", "", "[9]"}) {
                PrimeBlocks x = with("S+4", 3);
                Check.dueFault(x, "1+[9]", 2, 2, 2, 2, 0);
                Check.due("text(" + slot + ") of '" + text + "'", Check.read(x, text, slot), -2);
                Edges.dueRow("fault", x::fault, 0, NONE, 0, NONE);
                Check.due("fault(10)", x.fault(10), NONE);
                Check.due("look(7)", x.look(7), 8);
                Edges.dueRow("value(3, c)", c -> x.value(3, c), 5, 3, 5);
            }
        }
    }

    private static void latestFault() {
        PrimeBlocks x = new PrimeBlocks();
        Edges.dueRow("fault before any text", x::fault, 0, NONE, 0);
        Check.due("text", Check.read(x, "1+( 2*X 7)", 0), NONE);
        Edges.dueRow("fault", x::fault, 4, 8, 6);
        Edges.dueRow("fault(10 + i)", i -> x.fault(10 + i), 6, 4, 4, 2, 2, 0, NONE);
        // It stays until the next text(), whatever else is called.
        x.group(5, 3);
        x.feed(0, 0, 0, 0, 0);
        x.end(0);
        x.cut(0, 0, 1);
        x.cut(9, 0, 1);
        Edges.dueRow("fault stays", x::fault, 4, 8, 6);
        Edges.dueRow("fault(10 + i) stays", i -> x.fault(10 + i), 6, 4, 4, 2, 2, 0, NONE);
        Check.due("text", Check.read(x, "?", 0), NONE);
        Edges.dueRow("fault", x::fault, 1, 0, 0);
        Check.due("fault(10)", x.fault(10), NONE);
        Check.due("text", Check.read(x, "X9", 0), NONE);
        Check.due("text", Check.read(x, "1", 0), 0);
        Edges.dueRow("fault of what is taken", x::fault, 0, NONE, 0);
        Check.due("fault(10)", x.fault(10), NONE);
        // Fifteen places are the most.
        Check.due("text", Check.read(x, " (((((", 0), NONE);
        Edges.dueRow("fault", x::fault, 5, 5, 15);
        Edges.dueRow("fault(10 + i)", i -> x.fault(10 + i), 5, 5, 5, 4, 4, 4, 3, 3, 3, 2, 2, 2, 1, 1, 1, NONE);
    }

    private static void noSuchFault() {
        int[] none = {-1, -2, 3, 4, 8, 9, 13, 14, 24, 25, 100, LOW, HIGH};
        PrimeBlocks x = new PrimeBlocks();
        Edges.dueForAll("fault", NONE, x::fault, none);
        Edges.dueForAll("fault", NONE, x::fault, 10, 11, 12);
        Check.due("text", Check.read(x, "X9", 0), NONE);
        Edges.dueForAll("fault", NONE, x::fault, none);
        Check.due("fault(12)", x.fault(12), 0);
        Check.due("text", Check.read(x, "(X9", 0), NONE);
        Check.due("fault(15)", x.fault(15), 0);
        Check.due("fault(16)", x.fault(16), NONE);
        Check.due("text", Check.read(x, "?", 0), NONE);
        Edges.dueForAll("fault", NONE, x::fault, none);
        Edges.dueForAll("fault", NONE, x::fault, 10, 11, 12);
    }

    private static void values() {
        PrimeBlocks x = Edges.in(6, 2);
        Check.due("text", Check.read(x, "M[5,1]", 5), 0);
        Edges.dueRow("value(5, c)", c -> x.value(5, c), 0, 1, 0, 2, 0, 1, 3, 0, 2, 4, 6);
        Edges.dueRow("value(0, c)", c -> x.value(0, c), 0, 0, 0, 0, 0, 0, 0, 0, 0, 0, 0);
    }

    private static void noValues() {
        for (int n = 1; n <= 6; n++) {
            PrimeBlocks x = Edges.in(n, 3);
            Edges.dueForAll("value(0, c) of " + n, NO_LONG, c -> x.value(0, c), -1, x.look(2), 11, 12, LOW, HIGH);
            Edges.dueForAll("value(slot, 0) of " + n, NO_LONG, slot -> x.value(slot, 0), NO_SLOTS);
        }
    }

    private static void partsAbove() {
        PrimeBlocks x = with("2*[3]-3*[2,1]", 1);
        Edges.dueRow("parts(1, k, 0)", k -> x.parts(1, k, 0), 2, -3, 0);
        Edges.dueRow("parts(1, k, 1)", k -> x.parts(1, k, 1), 2, -3, NO_LONG);
        Edges.dueRow("parts(0, k, 0)", k -> x.parts(0, k, 0), 0, 0, 0);
        // D[3] is a half of the first and the last one.
        Check.due("text", Check.read(x, "0-3*D[3]", 2), 0);
        Edges.dueRow("parts(2, k, 0)", k -> x.parts(2, k, 0), -3, 0, -3);
        Edges.dueRow("parts(2, k, 1)", k -> x.parts(2, k, 1), -3, 0, NO_LONG);
        Check.due("text", Check.read(x, "1000*1000*1000*1000*S", 3), 0);
        Edges.dueRow("parts(3, k, 0)", k -> x.parts(3, k, 0), 0, 0, 1000000000000L);
    }

    private static void partsBelow() {
        PrimeBlocks x = with("D[3]*2", 0);
        Edges.dueRow("parts(0, k, 2): whole", k -> x.parts(0, k, 2), 1, 1, 1);
        Check.due("text", Check.read(x, "0-3*D[3]", 2), 0);
        Edges.dueRow("parts(2, k, 2): below 0", k -> x.parts(2, k, 2), 2, 1, 2);
        Edges.dueRow("parts(2, k, 3)", k -> x.parts(2, k, 3), 1, 1, NO_LONG);
        Edges.dueRow("parts(5, k, 2): of nothing", k -> x.parts(5, k, 2), 1, 1, 1);
        Edges.dueRow("parts(5, k, 3): of nothing", k -> x.parts(5, k, 3), 1, 1, NO_LONG);
        // 3 at the unmoved one alone: 3 by 6, and 6 by 6.
        Check.due("text", Check.read(x, "D[3]*(D[2,1]+1)", 4), 0);
        Edges.dueRow("value", c -> x.value(4, c), 0, 0, 3);
        Edges.dueRow("parts(4, k, 0)", k -> x.parts(4, k, 0), 1, 1, 1);
        Edges.dueRow("parts(4, k, 2)", k -> x.parts(4, k, 2), 2, 1, 2);
        // 1 at one permutation of two: above and below have nothing in common.
        PrimeBlocks two = Edges.in(2, 2);
        Check.due("text", Check.read(two, "D[2]", 0), 0);
        Edges.dueRow("parts(0, k, 0) of 2", k -> two.parts(0, k, 0), 1, 1);
        Edges.dueRow("parts(0, k, 2) of 2", k -> two.parts(0, k, 2), 2, 2);
        PrimeBlocks one = Edges.in(1, 2);
        Check.due("text", Check.read(one, "7", 0), 0);
        Edges.dueRow("parts(0, 0, what) of 1", what -> one.parts(0, 0, what), 7, 7, 1, 1);
        PrimeBlocks six = Edges.in(6, 2);
        Check.due("text", Check.read(six, "D[6]-1+D[6]", 0), 0);
        Edges.dueRow("value", c -> six.value(0, c), -1, 1, -1, -1, 1, -1, 1, -1, -1, -1, 1);
        // 225 permutations have odd cycles alone: 225 less 495 by 720 is -3 by 8.
        Check.due("parts(0, 0, 0)", six.parts(0, 0, 0), -3);
        Check.due("parts(0, 0, 2)", six.parts(0, 0, 2), 8);
    }

    private static void noParts() {
        PrimeBlocks x = with("7", 0);
        for (int what = 0; what < 4; what++) {
            int w = what;
            Edges.dueForAll("parts(slot, 0, " + what + ")", NO_LONG, slot -> x.parts(slot, 0, w), NO_SLOTS);
            Edges.dueForAll("parts(0, k, " + what + ")", NO_LONG, k -> x.parts(0, k, w), -1, 3, 11, LOW, HIGH);
            Check.due("parts(0, 2, " + what + ")", x.parts(0, 2, what) == NO_LONG, what == 1 || what == 3);
        }
        Edges.dueForAll("parts(0, 0, what)", NO_LONG, what -> x.parts(0, 0, what), -1, 4, 5, LOW, HIGH);
        PrimeBlocks y = Edges.in(3, 5);
        Check.due("regular at 5", y.parts(0, 2, 1), 0);
        Check.due("regular at 5", y.parts(0, 2, 3), 1);
    }

    private static void innerSums() {
        PrimeBlocks x = with("[2,1]", 0);
        Check.due("text", Check.read(x, "S", 1), 0);
        Check.due("text", Check.read(x, "1000*1000*1000*1000", 5), 0);
        Check.due("inner(0, 0)", x.inner(0, 0), 6);
        Check.due("inner(0, 1)", x.inner(0, 1), 0);
        Check.due("inner(1, 1)", x.inner(1, 1), 6);
        Check.due("inner(1, 2) with nothing", x.inner(1, 2), 0);
        Check.due("text", Check.read(x, "0-S", 2), 0);
        Check.due("inner(1, 2)", x.inner(1, 2), -6);
        Check.due("inner(2, 1)", x.inner(2, 1), -6);
        // 6 times 10 to the 24th, less what is above 64 bits.
        Check.due("inner(5, 5) wraps", x.inner(5, 5), -6424158842468171776L);
        PrimeBlocks one = Edges.in(1, 2);
        Check.due("text", Check.read(one, "1000*1000*1000*1000", 0), 0);
        Check.due("inner of 1 wraps", one.inner(0, 0), 2003764205206896640L);
    }

    private static void noInner() {
        PrimeBlocks x = with("7", 0);
        Edges.dueForAll("inner(slot, 0)", NONE, slot -> x.inner(slot, 0), NO_SLOTS);
        Edges.dueForAll("inner(0, slot)", NONE, slot -> x.inner(0, slot), NO_SLOTS);
        Edges.dueForAll("inner(slot, slot)", NONE, slot -> x.inner(slot, slot), NO_SLOTS);
        Check.due("inner(5, 5)", x.inner(5, 5), 0);
    }

    private static void dueKind(int n, int p, String text, int what, int due) {
        PrimeBlocks x = Edges.in(n, p);
        Check.due("text", Check.read(x, text, 5), 0);
        Check.due("group(" + n + ", " + p + ") '" + text + "' kind(5, " + what + ")", x.kind(5, what), due);
    }

    private static void zeroOffRegular() {
        dueKind(3, 2, "0", 0, 1);
        dueKind(3, 2, "D[3]", 0, 1);
        dueKind(3, 2, "P[2,1]", 0, 1);
        dueKind(3, 2, "1", 0, 0);
        dueKind(3, 2, "M[1,1,1]", 0, 1);
        dueKind(3, 2, "M[2,1]", 0, 0);
        // The first class alone isn't regular, or one in the midst.
        dueKind(5, 5, "1-D[5]", 0, 0);
        dueKind(6, 5, "1-D[6]", 0, 0);
        dueKind(6, 5, "D[6]", 0, 1);
        dueKind(3, 5, "1", 0, 1);
    }

    private static void ordinaryWhole() {
        dueKind(3, 2, "0", 1, 1);
        dueKind(3, 2, "[3]-9*[2,1]+S", 1, 1);
        dueKind(3, 2, "D[3]", 1, 0);
        dueKind(3, 2, "2*D[3]", 1, 1);
        dueKind(3, 3, "D[3]", 1, 0);
        dueKind(3, 3, "D[3]*2", 1, 0);
        dueKind(3, 3, "D[3]*3", 1, 1);
        // The first is in it no time, the second one a half.
        dueKind(5, 2, "[4,1]-D[4,1]", 1, 0);
        dueKind(4, 5, "D[2,2]", 1, 1);
    }

    private static void ordinaryNotBelow() {
        dueKind(3, 2, "0", 2, 1);
        dueKind(3, 2, "[3]", 2, 1);
        dueKind(3, 2, "[3]-[3]", 2, 1);
        dueKind(3, 2, "[3]-S", 2, 0);
        dueKind(3, 2, "S-[3]", 2, 0);
        dueKind(3, 2, "[3]-[2,1]", 2, 0);
        dueKind(3, 2, "D[3]", 2, 0);
        dueKind(3, 2, "M[1,1,1]", 2, 1);
    }

    /** Whatever a text or cut() makes has modular ones whole times: at regular classes it is made of their sums and products. */
    private static void modularWhole() {
        dueKind(3, 2, "0", 3, 1);
        dueKind(3, 2, "D[3]-9*D[2,1]", 3, 1);
        dueKind(3, 2, "S-[3]", 3, 1);
        // Ordinary ones are in it by halves.
        dueKind(3, 2, "D[3]", 3, 1);
        dueKind(6, 3, "D[5,1]*D[4,2]-X0*D[6]", 3, 1);
    }

    private static void modularNotBelow() {
        dueKind(3, 2, "0", 4, 1);
        dueKind(3, 2, "D[3]", 4, 1);
        dueKind(3, 2, "D[3]-D[3]", 4, 1);
        dueKind(3, 2, "D[3]-D[2,1]", 4, 0);
        dueKind(3, 2, "D[2,1]-D[3]", 4, 0);
        // What is below 0 as ordinary ones needs not be so as modular ones.
        dueKind(3, 2, "2*[3]-S", 4, 1);
        dueKind(3, 2, "[3]-2*S", 4, 0);
        dueKind(3, 2, "[3]-S", 4, 1);
    }

    private static void noKind() {
        PrimeBlocks x = with("7", 0);
        for (int what = 0; what < 5; what++) {
            int w = what;
            Edges.dueForAll("kind(slot, " + what + ")", NONE, slot -> x.kind(slot, w), NO_SLOTS);
            Check.due("kind(5, " + what + ")", x.kind(5, what), 1);
        }
        Edges.dueForAll("kind(0, what)", NONE, what -> x.kind(0, what), -1, -2, 5, 6, LOW, HIGH);
    }

    private static void cuts() {
        PrimeBlocks x = with("2*[3]-3*[2,1]+5*S", 0);
        Check.due("cut(0, 0, 1)", x.cut(0, 0, 1), 0);
        Edges.dueRow("value(1, c)", c -> x.value(1, c), 7, -3, 7);
        Edges.dueRow("parts(1, k, 0)", k -> x.parts(1, k, 0), 2, 0, 5);
        Check.due("cut(0, 1, 2)", x.cut(0, 1, 2), 0);
        Edges.dueRow("value(2, c)", c -> x.value(2, c), 3, 0, -6);
        Check.due("nothing is left", x.cut(2, 0, 3), 0);
        Edges.dueRow("value(3, c)", c -> x.value(3, c), 0, 0, 0);
        Check.due("all is left", x.cut(2, 1, 4), 0);
        Edges.dueRow("value(4, c)", c -> x.value(4, c), 3, 0, -6);
        PrimeBlocks y = Edges.in(4, 2);
        Check.due("text", Check.read(y, "S+3", 0), 0);
        Check.due("one block has all", y.cut(0, 0, 1), 0);
        Edges.dueRow("value(1, c)", c -> y.value(1, c), 2, 4, 4, 2, 4);
        PrimeBlocks last = Edges.in(6, 7);
        Check.due("text", Check.read(last, "7*S+[6]", 0), 0);
        Check.due("the last block", last.cut(0, 10, 1), 0);
        Edges.dueRow("value(1, c)", c -> last.value(1, c), -7, 7, 7, -7, 7, -7, 7, -7, 7, -7, 7);
    }

    private static void cutsWhole() {
        // Halves of [3] and of the sign, and the whole of [2,1].
        PrimeBlocks x = with("D[3]+D[2,1]", 0);
        Check.due("cut(0, 0, 1)", x.cut(0, 0, 1), NONE);
        // How often is whole for all of that block.
        Check.due("cut(0, 1, 1)", x.cut(0, 1, 1), 0);
        Edges.dueRow("value(1, c)", c -> x.value(1, c), -1, 0, 2);
        PrimeBlocks y = with("2*D[3]", 0);
        Check.due("halves twice are whole", y.cut(0, 0, 1), 0);
        Edges.dueRow("value(1, c)", c -> y.value(1, c), 2, 0, 2);
    }

    private static void cutsInto() {
        PrimeBlocks x = with("[3]+[2,1]", 5);
        Check.due("into itself", x.cut(5, 1, 5), 0);
        Edges.dueRow("value(5, c)", c -> x.value(5, c), -1, 0, 2);
        Check.due("into the first", x.cut(5, 1, 0), 0);
        Edges.dueRow("value(0, c)", c -> x.value(0, c), -1, 0, 2);
        Edges.dueRow("the other one stays", c -> x.value(5, c), -1, 0, 2);
        Check.due("of nothing", x.cut(3, 0, 0), 0);
        Edges.dueRow("value(0, c)", c -> x.value(0, c), 0, 0, 0);
        Check.due("look(7)", x.look(7), 32);
    }

    private static void cutsRefused() {
        PrimeBlocks x = with("D[3]", 0);
        Check.due("text", Check.read(x, "7", 1), 0);
        Edges.dueForAll("cut(slot, 0, 1)", NONE, slot -> x.cut(slot, 0, 1), NO_SLOTS);
        Edges.dueForAll("cut(1, 0, slot)", NONE, slot -> x.cut(1, 0, slot), NO_SLOTS);
        Edges.dueForAll("cut(1, b, 1)", NONE, b -> x.cut(1, b, 1), -1, 2, 3, LOW, HIGH);
        Check.due("one isn't whole", x.cut(0, 0, 1), NONE);
        Edges.dueRow("the slot stays", c -> x.value(1, c), 7, 7, 7);
        Check.due("one isn't whole, into itself", x.cut(0, 0, 0), NONE);
        Edges.dueRow("the slot stays", c -> x.value(0, c), 1, 0, 1);
        Check.due("look(7)", x.look(7), 3);
    }

    private static void looks() {
        int[][] due = {{1, 2, 1, 1, 1, 1}, {2, 2, 2, 1, 1, 2}, {3, 3, 3, 2, 1, 6}, {4, 2, 5, 2, 1, 24}, {5, 3, 7, 5, 3, 120}, {6, 2, 11, 4, 2, 720},
            {6, 3, 11, 7, 3, 720}, {6, 5, 11, 10, 7, 720}, {6, 7, 11, 11, 11, 720}};
        for (int[] row : due) {
            PrimeBlocks x = Edges.in(row[0], row[1]);
            for (int what = 0; what < 6; what++) {
                Check.due("group(" + row[0] + ", " + row[1] + ") look(" + what + ")", x.look(what), row[what]);
            }
        }
    }

    private static void bytes() {
        PrimeBlocks x = new PrimeBlocks();
        Check.due("at first", x.look(6), 0);
        x.feed(0, 0, 0, 0, 0);
        Check.due("behind feed", x.look(6), 20);
        x.end(7);
        Check.due("behind end", x.look(6), 7);
        x.feed(0, 0, 0, 0, 0);
        Check.due("behind both", x.look(6), 27);
        x.group(6, 2);
        Check.due("behind group", x.look(6), 27);
        x.text(0);
        Check.due("behind text", x.look(6), 0);
    }

    private static void slotBits() {
        PrimeBlocks x = Edges.in(6, 2);
        for (int slot = 0; slot < 6; slot++) {
            Check.due("text", Check.read(x, "1", slot), 0);
            Check.due("look(7)", x.look(7), (2 << slot) - 1);
        }
        for (int slot = 0; slot < 6; slot++) {
            Check.due("text", Check.read(x, "0", slot), 0);
            Check.due("look(7)", x.look(7), 63 - ((2 << slot) - 1));
        }
        // Not 0 at the last class alone, at the first alone, and in all 0.
        Check.due("text", Check.read(x, "M[1,1,1,1,1,1]", 2), 0);
        Check.due("look(7)", x.look(7), 4);
        PrimeBlocks two = Edges.in(2, 2);
        Check.due("text", Check.read(two, "1-S", 4), 0);
        Check.due("look(7)", two.look(7), 16);
        Check.due("text", Check.read(two, "S-S", 4), 0);
        Check.due("look(7)", two.look(7), 0);
    }

    private static void blocksWithoutDefect() {
        int[][] due = {{1, 2, 1}, {2, 2, 0}, {3, 2, 1}, {4, 2, 0}, {5, 2, 0}, {6, 2, 1}, {3, 3, 0}, {4, 3, 2}, {5, 3, 1}, {6, 3, 2}, {5, 5, 2}, {6, 5, 6},
            {4, 5, 5}, {6, 7, 11}};
        for (int[] row : due) {
            Check.due("group(" + row[0] + ", " + row[1] + ") look(8)", Edges.in(row[0], row[1]).look(8), row[2]);
        }
    }

    private static void noLook() {
        PrimeBlocks x = with("7", 0);
        Edges.dueForAll("look", NONE, x::look, -1, -2, 9, 10, 100, LOW, HIGH);
    }
}
