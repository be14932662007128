/** Each promise by examples from books and by hand: ordinary inputs, the edges that the document names, wrong inputs. */
public final class PromiseTest {
    private static final int NONE = PrimeBlocks.NONE;
    private static final int LOW = Integer.MIN_VALUE;
    private static final int HIGH = Integer.MAX_VALUE;

    public static void main(String[] args) {
        newObject();
        groups();
        feedAndEnd();
        textAndFault();
        texts();
        faults();
        greatNumbers();
        partitionsAndCores();
        classes();
        characters();
        modularCharacters();
        decompositionTables();
        cartanAndBlocks();
        tableauxAndForms();
        functions();
        wrongArguments();
        Check.finish();
    }

    private static PrimeBlocks in(int n, int p) {
        PrimeBlocks x = new PrimeBlocks();
        x.group(n, p);
        return x;
    }

    private static void newObject() {
        PrimeBlocks x = new PrimeBlocks();
        long[] looks = {3, 2, 3, 2, 2, 6, 0, 0, 1, NONE};
        for (int what = 0; what < looks.length; what++) {
            Check.due("new: look(" + what + ")", x.look(what), looks[what]);
        }
        Check.due("new: fault(0)", x.fault(0), 0);
        Check.due("new: fault(1)", x.fault(1), NONE);
        Check.due("new: fault(2)", x.fault(2), 0);
        Check.due("new: fault(10)", x.fault(10), NONE);
        for (int slot = 0; slot < 6; slot++) {
            for (int c = 0; c < 3; c++) {
                Check.due("new: value", x.value(slot, c), 0);
            }
        }
    }

    private static void groups() {
        int[] counts = {1, 2, 3, 5, 7, 11};
        PrimeBlocks x = new PrimeBlocks();
        for (int p : new int[] {2, 3, 5, 7}) {
            for (int n = 1; n <= 6; n++) {
                Check.due("group(" + n + ", " + p + ")", x.group(n, p), counts[n - 1]);
                Check.due("look(0)", x.look(0), n);
                Check.due("look(1)", x.look(1), p);
            }
        }
        x.group(4, 3);
        Check.due("text", Check.read(x, "7", 2), 0);
        Check.dueFault(x, "[5]", 2, 0, 0, 0, 0);
        Check.type(x, "S+");
        int[][] wrong = {{0, 2}, {7, 2}, {-1, 2}, {4, 0}, {4, 1}, {4, 4}, {4, 6}, {4, 8}, {4, 11}, {4, -2}, {LOW, LOW}, {HIGH, HIGH}};
        for (int[] pair : wrong) {
            Check.due("group(" + pair[0] + ", " + pair[1] + ")", x.group(pair[0], pair[1]), NONE);
            Check.due("n stays", x.look(0), 4);
            Check.due("p stays", x.look(1), 3);
            Check.due("slots stay", x.look(7), 4);
        }
        for (int slot = 0; slot < 6; slot++) {
            dueAllZeroAnew(slot);
        }
        Check.due("the same group", x.group(4, 3), 5);
        Check.due("all slots are 0 anew", x.look(7), 0);
        Check.due("value", x.value(2, 0), 0);
        Check.due("the tape stays", x.look(6), 2);
        Check.due("the fault stays", x.fault(0), 2);
    }

    private static void dueAllZeroAnew(int slot) {
        PrimeBlocks x = in(6, 5);
        Check.due("text", Check.read(x, "1", slot), 0);
        Check.due("look(7)", x.look(7), 1 << slot);
        Check.due("group", x.group(6, 2), 11);
        Check.due("slot " + slot + " is 0 anew", x.look(7), 0);
        Check.due("value", x.value(slot, 10), 0);
    }

    private static void feedAndEnd() {
        PrimeBlocks x = in(3, 2);
        for (int i = 1; i <= 10; i++) {
            Check.due("feed", x.feed(0x20202020, 0x20202020, 0x20202020, 0x20202020, 0x20202020), 20 * i);
        }
        Check.due("feed above 200", x.feed(0, 0, 0, 0, 0), NONE);
        Check.due("none came", x.look(6), 200);
        Check.due("end(201)", x.end(201), false);
        Check.due("end(-1)", x.end(-1), false);
        Check.due("end(LOW)", x.end(LOW), false);
        Check.due("end(200)", x.end(200), true);
        Check.due("end(181)", x.end(181), true);
        Check.due("feed to 201", x.feed(0, 0, 0, 0, 0), NONE);
        Check.due("end(182)", x.end(182), false);
        Check.due("end(180)", x.end(180), true);
        Check.due("feed to 200", x.feed(0, 0, 0, 0, 0), 200);
        Check.due("end(0)", x.end(0), true);
        Check.due("look(6)", x.look(6), 0);
        // The highest byte first: "1*20 -3 " and so on, and bytes above 127.
        Check.due("feed", x.feed(0x312A3230, 0x202D3320, 0x2B53FFFF, 0x80808080, 0), 20);
        Check.due("end(10)", x.end(10), true);
        Check.due("text", x.text(3), 0);
        Check.due("value", x.value(3, 0), 18);
        Check.due("value", x.value(3, 1), 16);
        Check.due("feed", x.feed(0xFF808182, 0, 0, 0, 0), 20);
        Check.due("text", x.text(3), NONE);
        Check.due("fault(1)", x.fault(1), 0);
    }

    private static void textAndFault() {
        PrimeBlocks x = in(3, 2);
        Check.due("text", Check.read(x, "5", 1), 0);
        Check.dueFault(x, "5+?", 1, 2);
        Check.due("the slot stays", x.value(0, 0), 0);
        Check.due("the tape is empty", x.look(6), 0);
        for (int slot : new int[] {-1, 6, LOW, HIGH}) {
            Check.dueFault(x, "X6", 4, 1, 0, 0, 0);
            Check.due("text(" + slot + ")", Check.read(x, "?", slot), -2);
            Check.due("no fault", x.fault(0), 0);
            Check.due("no place", x.fault(1), NONE);
            Check.due("nothing within", x.fault(2), 0);
            Check.due("the tape is empty", x.look(6), 0);
        }
        Check.due("the slot stays", x.value(1, 0), 5);
        Check.dueFault(x, "", 1, 0);
        Check.dueFault(x, "X1+X9", 4, 4, 3, 3, 0);
        for (int what : new int[] {-1, 3, 9, 13, 14, 25, LOW, HIGH}) {
            Check.due("fault(" + what + ")", x.fault(what), NONE);
        }
        Check.due("text", Check.read(x, "X1*X1", 1), 0);
        Check.due("a slot as it was", x.value(1, 2), 25);
        Check.due("no fault any more", x.fault(0), 0);
    }

    private static void texts() {
        PrimeBlocks x = in(3, 2);
        Check.dueValues(x, "0", 0, 0, 0);
        Check.dueValues(x, "0012", 12, 12, 12);
        Check.dueValues(x, "9999", 9999, 9999, 9999);
        Check.dueValues(x, "S", 1, -1, 1);
        Check.dueValues(x, "[3]", 1, 1, 1);
        Check.dueValues(x, "[2,1]", -1, 0, 2);
        Check.dueValues(x, " \n[ 002 ,\n1 ] ", -1, 0, 2);
        Check.dueValues(x, "D[2,1]", -1, 0, 2);
        Check.dueValues(x, "D\n [3]", 1, 0, 1);
        Check.dueValues(x, "P[3]", 2, 0, 2);
        Check.dueValues(x, "M[3]", 1, 1, 1);
        Check.dueValues(x, "M[2,1]", 0, 1, 3);
        Check.dueValues(x, "M [1,1,1]", 0, 0, 6);
        Check.dueValues(x, "2+3*4-5", 9, 9, 9);
        Check.dueValues(x, "2-3-4", -5, -5, -5);
        Check.dueValues(x, "2-(3-4)", 3, 3, 3);
        Check.dueValues(x, "(2+3)*(4+S)", 25, 15, 25);
        Check.dueValues(x, "((((7))))", 7, 7, 7);
        Check.dueValues(x, "((((7)))) + ((((S))))", 8, 6, 8);
        Check.due("text", Check.read(x, "[2,1]*[2,1]", 5), 0);
        Check.dueValues(x, "X 5 - X0005*2", -1, 0, -4);
        StringBuilder longest = new StringBuilder("1");
        while (longest.length() < 199) {
            longest.append("+1");
        }
        Check.dueValues(x, longest + " ", 100, 100, 100);
        Check.dueValues(in(1, 7), "[1]+P[1]*D[1]-M[1]*S", 1);
        Check.dueValues(in(4, 3), "M[2,2]", 0, 0, 2, 2, 6);
        Check.dueValues(in(4, 3), "D[2,1,1]", 1, 0, -1, -1, 3);
        Check.dueValues(in(4, 3), "D[2,2]", -1, 0, 1, -1, 1);
    }

    private static void faults() {
        PrimeBlocks x = in(3, 2);
        Check.dueFault(x, "  ", 1, 2);
        Check.dueFault(x, "?", 1, 0);
        Check.dueFault(x, " -3", 1, 1);
        Check.dueFault(x, "2 +  ", 1, 5);
        Check.dueFault(x, "2\t", 1, 1);
        Check.dueFault(x, "2 3", 1, 2);
        Check.dueFault(x, " 12345", 1, 1);
        Check.dueFault(x, "X 00001", 1, 2);
        Check.dueFault(x, "X", 1, 1);
        Check.dueFault(x, "XS", 1, 1);
        Check.dueFault(x, "D", 1, 1);
        Check.dueFault(x, "D 3", 1, 2);
        Check.dueFault(x, "DP[3]", 1, 1);
        Check.dueFault(x, "s", 1, 0);
        Check.dueFault(x, "[]", 1, 1);
        Check.dueFault(x, "[3", 1, 2);
        Check.dueFault(x, "[3,]", 1, 3);
        Check.dueFault(x, "[9,", 1, 3);
        Check.dueFault(x, "[9 9]", 1, 3);
        Check.dueFault(x, "[10000]", 1, 1);
        Check.dueFault(x, "[2+1]", 1, 2);
        Check.dueFault(x, "(2", 1, 2);
        Check.dueFault(x, "(2]", 1, 2);
        Check.dueFault(x, "()", 1, 1);
        Check.dueFault(x, "2)", 1, 1);
        Check.dueFault(x, "2*", 1, 2);
        Check.dueFault(x, "2**2", 1, 2);
        Check.dueFault(x, "[4]", 2, 0, 0, 0, 0);
        Check.dueFault(x, "[1,2]", 2, 0, 0, 0, 0);
        Check.dueFault(x, "[3,0]", 2, 0, 0, 0, 0);
        Check.dueFault(x, "[0]", 2, 0, 0, 0, 0);
        Check.dueFault(x, "[2]", 2, 0, 0, 0, 0);
        Check.dueFault(x, "[1,1,1,0,0,0,0,0]", 2, 0, 0, 0, 0);
        Check.dueFault(x, "[9999,9999]?", 2, 0, 0, 0, 0);
        Check.dueFault(x, " S + 2 * D [1,1]", 2, 11, 9, 5, 1);
        Check.dueFault(x, "D[1,1,1]", 3, 0, 0, 0, 0);
        Check.dueFault(x, "2*P[1,1,1]", 3, 2, 2, 0, 0);
        Check.dueFault(x, "X6", 4, 1, 0, 0, 0);
        Check.dueFault(x, "1+( 2*X \n9999)", 4, 9, 6, 4, 4, 2, 2, 0);
        Check.dueFault(x, "(((((1)))))", 5, 4, 4, 4, 4, 3, 3, 3, 2, 2, 2, 1, 1, 1, 0, 0, 0);
        Check.dueFault(x, "1+(2*(3-( S*(4*(", 5, 15, 15, 13, 13, 12, 10, 10, 8, 8, 6, 5, 3, 3, 2, 2, 0);
    }

    private static void greatNumbers() {
        PrimeBlocks x = in(3, 2);
        Check.dueValues(x, "1000*1000*1000*1000", 1000000000000L, 1000000000000L, 1000000000000L);
        Check.dueValues(x, "0-1000*1000*1000*1000", -1000000000000L, -1000000000000L, -1000000000000L);
        Check.dueValues(x, "1000*1000*1000*1000*S", 1000000000000L, -1000000000000L, 1000000000000L);
        Check.dueFault(x, "1000*1000*1000*1000*2", 6, 19, 0, 0);
        Check.dueFault(x, "1000*1000*1000*1000 + 1", 6, 20, 0);
        Check.dueFault(x, "1000*1000*1000*1000 + 1 - 1", 6, 20, 0);
        Check.dueFault(x, "0-1000*1000*1000*1000-1 ?", 6, 21, 0);
        Check.dueFault(x, "3+(2 + 1000*1000*1000*1000)", 6, 5, 3, 2, 2, 0);
        Check.dueFault(x, "3+( 1*9999*9999*9999*9999)", 6, 20, 4, 4, 2, 2, 0);
        Check.dueFault(x, "1000*1000*1000*1000*M[2,1]", 6, 19, 0, 0);
        Check.dueFault(x, "1000*1000*1000*1000*(1-M[1,1,1])", 6, 19, 0, 0);
        // What is cut out may be greater than what a text can make; it stands, but nothing is made of it.
        Check.due("text", Check.read(x, "(333*1000+333)*(1000*1000+1)*(2*[2,1]-1)", 0), 0);
        Check.due("cut", x.cut(0, 1, 1), 0);
        Check.due("value", x.value(1, 2), 1333333333332L);
        Check.dueValues(x, "X1", -666666666666L, 0, 1333333333332L);
        Check.dueFault(x, "X1+0", 6, 2, 0);
        Check.dueFault(x, "1*X1", 6, 1, 0, 0);
        Check.dueFault(x, "X1*X1", 6, 2, 0, 0);
    }

    private static void partitionsAndCores() {
        PrimeBlocks x = in(6, 2);
        int[][] due = {{6}, {5, 1}, {4, 2}, {4, 1, 1}, {3, 3}, {3, 2, 1}, {3, 1, 1, 1}, {2, 2, 2}, {2, 2, 1, 1}, {2, 1, 1, 1, 1},
            {1, 1, 1, 1, 1, 1}};
        for (int k = 0; k < due.length; k++) {
            Check.due("partition", x.partition(k, NONE), due[k].length);
            for (int i = 0; i <= due[k].length; i++) {
                Check.due("partition", x.partition(k, i), i < due[k].length ? due[k][i] : 0);
            }
        }
        Check.due("partition far beyond", x.partition(3, HIGH), 0);
        Check.due("[3,2,1] is its own core", x.core(5, NONE), 6);
        Check.due("core", x.core(5, 1), 2);
        Check.due("core", x.core(5, 3), 0);
        Check.due("core far beyond", x.core(5, HIGH), 0);
        Check.due("an empty core", x.core(0, NONE), 0);
        Check.due("core", x.core(0, 0), 0);
        Check.due("weight", x.of(0, 1), 3);
        Check.due("weight", x.of(5, 1), 0);
        Check.due("block", x.of(10, 2), 0);
        Check.due("block", x.of(5, 2), 1);
        int[] regular = {0, 1, 2, NONE, NONE, 3, NONE, NONE, NONE, NONE, NONE};
        int[] turned = {10, 9, 8, 6, 7, 5, 3, 4, 2, 1, 0};
        int[] degrees = {1, 5, 9, 10, 5, 16, 10, 5, 9, 5, 1};
        int[] ranks = {1, 4, 4, 0, 0, 16, 0, 0, 0, 0, 0};
        for (int k = 0; k < 11; k++) {
            Check.due("of(k, 0)", x.of(k, 0), regular[k] == NONE ? 0 : 1);
            Check.due("of(k, 3)", x.of(k, 3), degrees[k]);
            Check.due("of(k, 4)", x.of(k, 4), ranks[k]);
            Check.due("of(k, 5)", x.of(k, 5), turned[k]);
            Check.due("of(k, 6)", x.of(k, 6), turned[k] == k ? 1 : 0);
            Check.due("of(k, 7)", x.of(k, 7), regular[k]);
        }
        int[][] hooks = {{5, 3, 1}, {3, 1}, {1}};
        for (int row = 0; row < 4; row++) {
            for (int column = 0; column < 4; column++) {
                boolean there = row < 3 && column < hooks[row].length;
                Check.due("hook", x.hook(5, row, column), there ? hooks[row][column] : NONE);
            }
        }
    }

    private static void classes() {
        PrimeBlocks x = in(5, 3);
        int[] sizes = {24, 30, 20, 20, 15, 10, 1};
        int[] orders = {5, 4, 6, 3, 2, 2, 1};
        int[] regular = {1, 1, 0, 0, 1, 1, 1};
        int[] signs = {1, -1, -1, 1, 1, -1, 1};
        for (int c = 0; c < 7; c++) {
            Check.due("classOf(c, 0)", x.classOf(c, 0), sizes[c]);
            Check.due("classOf(c, 1)", x.classOf(c, 1), orders[c]);
            Check.due("classOf(c, 2)", x.classOf(c, 2), regular[c]);
            Check.due("classOf(c, 3)", x.classOf(c, 3), signs[c]);
            Check.due("classOf(c, 4)", x.classOf(c, 4), 120 / sizes[c]);
        }
    }

    private static void characters() {
        PrimeBlocks x = in(4, 2);
        int[][] four = {{1, 1, 1, 1, 1}, {-1, 0, -1, 1, 3}, {0, -1, 2, 0, 2}, {1, 0, -1, -1, 3}, {-1, 1, 1, -1, 1}};
        for (int k = 0; k < 5; k++) {
            for (int c = 0; c < 5; c++) {
                Check.due("character of 4", x.character(k, c), four[k][c]);
            }
        }
        // [3,1,1] of 5: 6 at 1, -2 at two cycles of 2, 1 at a cycle of 5.
        int[] row = {1, 0, 0, 0, -2, 0, 6};
        for (int c = 0; c < 7; c++) {
            Check.due("character of 5", in(5, 7).character(3, c), row[c]);
        }
    }

    private static void modularCharacters() {
        // Modulo 2 of 5, at 5, 3 and 1: 1 1 1; -1 1 4; -1 -2 4.
        PrimeBlocks x = in(5, 2);
        int[][] two = {{1, 1, 1}, {-1, 1, 4}, {-1, -2, 4}};
        int[] regular = {0, 3, 6};
        for (int k = 0; k < 3; k++) {
            for (int c = 0; c < 3; c++) {
                Check.due("modular of 5 at 2", x.modular(k, regular[c]), two[k][c]);
            }
            Check.due("modular where it isn't regular", x.modular(k, 1), NONE - 1000);
        }
        Check.due("modular of one that isn't regular", x.modular(3, 0), NONE - 1000);
        // Modulo 5 of 5 the one of [4,1] is its character less 1.
        PrimeBlocks five = in(5, 5);
        int[] less = {NONE - 1000, -1, -2, 0, -1, 1, 3};
        for (int c = 0; c < 7; c++) {
            Check.due("modular of 5 at 5", five.modular(1, c), less[c]);
        }
    }

    /** Tables as they stand in books: rows by partitions, columns by regular ones. */
    private static void decompositionTables() {
        dueTable(2, 2, "1", "1");
        dueTable(3, 2, "10", "01", "10");
        dueTable(4, 2, "10", "11", "01", "11", "10");
        dueTable(5, 2, "100", "010", "101", "201", "101", "010", "100");
        dueTable(6, 2, "1000", "1100", "1110", "2110", "1010", "0001", "2110", "1010", "1110", "1100", "1000");
        dueTable(3, 3, "10", "11", "01");
        dueTable(4, 3, "1000", "0100", "1010", "0001", "0010");
        dueTable(5, 3, "10000", "01000", "01100", "00010", "10001", "00001", "00100");
        dueTable(6, 3, "1000000", "1100000", "0010000", "0101000", "0100100", "1101110", "0001010", "1000010", "0000001", "0000110",
            "0000100");
        dueTable(5, 5, "100000", "110000", "001000", "010100", "000010", "000101", "000001");
        dueTable(4, 5, "10000", "01000", "00100", "00010", "00001");
        dueTable(1, 2, "1");
        dueTable(1, 7, "1");
    }

    private static void dueTable(int n, int p, String... rows) {
        PrimeBlocks x = in(n, p);
        Check.due("rows", x.look(2), rows.length);
        Check.due("columns", x.look(3), rows[0].length());
        for (int k = 0; k < rows.length; k++) {
            for (int by = 0; by < rows.length; by++) {
                int number = x.of(by, 7);
                int due = number == NONE ? NONE : rows[k].charAt(number) - '0';
                Check.due("group(" + n + ", " + p + ") decomposition(" + k + ", " + by + ")", x.decomposition(k, by), due);
            }
        }
    }

    private static void cartanAndBlocks() {
        PrimeBlocks x = in(4, 2);
        int[][] cartan = {{4, 2}, {2, 3}};
        for (int k = 0; k < 2; k++) {
            for (int other = 0; other < 2; other++) {
                Check.due("cartan", x.cartan(k, other), cartan[k][other]);
            }
        }
        Check.due("cartan of one that isn't regular", x.cartan(0, 2), NONE);
        Check.due("cartan of one that isn't regular", x.cartan(2, 0), NONE);
        int[] first = {0, 2, 0, 0, 8};
        int[] second = {0, -1, 0, 0, 8};
        for (int c = 0; c < 5; c++) {
            Check.due("projective", x.projective(0, c), first[c]);
            Check.due("projective", x.projective(1, c), second[c]);
            Check.due("projective", x.projective(2, c), NONE - 1000);
        }
        long[] one = {5, 2, 2, 3, 0, 8, NONE};
        for (int what = 0; what < one.length; what++) {
            Check.due("block of 4 at 2", x.block(0, what), one[what]);
        }
        Check.due("blocks", x.block(0, NONE), 1);
        PrimeBlocks y = in(6, 3);
        Check.due("blocks", y.block(0, NONE), 3);
        long[][] due = {{9, 5, 2, 2, 0}, {1, 1, 0, 0, 2}, {1, 1, 0, 0, 8}};
        for (int b = 0; b < 3; b++) {
            for (int what = 0; what < 5; what++) {
                Check.due("block of 6 at 3", y.block(b, what), due[b][what]);
            }
        }
        Check.due("determinant", y.block(1, 5), 1);
        Check.due("blocks without defect", y.look(8), 2);
        Check.due("all blocks without defect", in(6, 7).look(8), 11);
    }

    private static void tableauxAndForms() {
        PrimeBlocks x = in(4, 2);
        int[][] words = {{1, 2, 3, 4}, {1, 2, 4, 3}, {1, 3, 4, 2}};
        for (int t = 0; t < 3; t++) {
            for (int column = 0; column < 3; column++) {
                Check.due("tableau of [3,1]", x.tableau(1, t, 0, column), words[t][column]);
            }
            Check.due("tableau of [3,1]", x.tableau(1, t, 1, 0), words[t][3]);
            Check.due("no such cell", x.tableau(1, t, 1, 1), NONE);
            for (int s = 0; s < 3; s++) {
                Check.due("gram of [3,1]", x.gram(1, t, s), s == t ? 2 : 1);
            }
        }
        Check.due("how many", x.tableau(1, HIGH, NONE, LOW), 3);
        Check.due("no such row", x.tableau(1, 0, -2, 0), NONE);
        Check.due("gram of [2,2]", x.gram(2, 0, 0), 4);
        Check.due("gram of [2,2]", x.gram(2, 0, 1), 2);
        Check.due("gram of [1,1,1,1]", x.gram(4, 0, 0), 24);
    }

    private static void functions() {
        PrimeBlocks x = in(3, 2);
        Check.due("text", Check.read(x, "D[3]", 0), 0);
        long[] above = {1, 0, 1};
        long[] below = {2, 1, 2};
        for (int k = 0; k < 3; k++) {
            Check.due("parts", x.parts(0, k, 0), above[k]);
            Check.due("parts", x.parts(0, k, 2), below[k]);
        }
        Check.due("parts", x.parts(0, 0, 1), 1);
        Check.due("parts", x.parts(0, 0, 3), 1);
        Check.due("parts", x.parts(0, 1, 1), 0);
        dueKinds(x, 0, 1, 0, 0, 1, 1);
        Check.due("cut where it isn't whole", x.cut(0, 0, 3), NONE);
        Check.due("cut where it is whole", x.cut(0, 1, 3), 0);
        Check.due("text", Check.read(x, "[3]-[2,1]-2*S", 1), 0);
        dueKinds(x, 1, 0, 1, 0, 1, 0);
        Check.due("parts", x.parts(1, 2, 0), -2);
        Check.due("text", Check.read(x, "S*2", 2), 0);
        dueKinds(x, 2, 0, 1, 1, 1, 1);
        Check.due("inner", x.inner(1, 2), -24);
        Check.due("cut", x.cut(1, 1, 1), 0);
        Check.due("value", x.value(1, 0), 1);
        Check.due("value", x.value(1, 1), 0);
        Check.due("value", x.value(1, 2), -2);
        Check.due("look(7)", x.look(7), 7);
        Check.due("cut to nothing", x.cut(1, 0, 2), 0);
        Check.due("look(7)", x.look(7), 3);
        Check.due("text", Check.read(x, "1000*1000*1000*1000", 4), 0);
        Check.due("inner wraps", x.inner(4, 4), 6L * 1000000000000L * 1000000000000L);
        PrimeBlocks y = in(6, 3);
        Check.due("text", Check.read(y, "D[2,2,1,1]-D[6]", 0), 0);
        dueKinds(y, 0, 1, 0, 0, 1, 0);
        Check.due("parts", y.parts(0, 8, 1), 1);
        Check.due("parts", y.parts(0, 0, 1), -1);
        Check.due("parts", y.parts(0, 7, 1), Long.MIN_VALUE);
        Check.due("parts", y.parts(0, 7, 3), Long.MIN_VALUE);
    }

    private static void dueKinds(PrimeBlocks x, int slot, int... due) {
        for (int what = 0; what < 5; what++) {
            Check.due("kind(" + slot + ", " + what + ")", x.kind(slot, what), due[what]);
        }
        Check.due("kind(5)", x.kind(slot, 5), NONE);
        Check.due("kind(-1)", x.kind(slot, -1), NONE);
    }

    private static void wrongArguments() {
        PrimeBlocks x = in(4, 3);
        for (int k : new int[] {-1, 5, LOW, HIGH}) {
            Check.due("partition", x.partition(k, 0), NONE);
            Check.due("partition", x.partition(k, NONE), NONE);
            Check.due("of", x.of(k, 0), NONE);
            Check.due("core", x.core(k, NONE), NONE);
            Check.due("hook", x.hook(k, 0, 0), NONE);
            Check.due("classOf", x.classOf(k, 0), -2);
            Check.due("character", x.character(k, 0), -1001);
            Check.due("character", x.character(0, k), -1001);
            Check.due("modular", x.modular(k, 0), -1001);
            Check.due("modular", x.modular(0, k), -1001);
            Check.due("projective", x.projective(k, 0), -1001);
            Check.due("projective", x.projective(0, k), -1001);
            Check.due("decomposition", x.decomposition(k, 0), NONE);
            Check.due("decomposition", x.decomposition(0, k), NONE);
            Check.due("cartan", x.cartan(k, 0), NONE);
            Check.due("cartan", x.cartan(0, k), NONE);
            Check.due("tableau", x.tableau(k, 0, 0, 0), NONE);
            Check.due("tableau", x.tableau(k, 0, NONE, 0), NONE);
            Check.due("tableau", x.tableau(0, k, 0, 0), NONE);
            Check.due("gram", x.gram(k, 0, 0), -1001);
            Check.due("gram", x.gram(0, k, 0), -1001);
            Check.due("gram", x.gram(0, 0, k), -1001);
            Check.due("block", x.block(k, 0), NONE);
            Check.due("value", x.value(0, k), Long.MIN_VALUE);
            Check.due("parts", x.parts(0, k, 0), Long.MIN_VALUE);
            Check.due("cut", x.cut(0, k, 0), NONE);
        }
        for (int slot : new int[] {-1, 6, LOW, HIGH}) {
            Check.due("value", x.value(slot, 0), Long.MIN_VALUE);
            Check.due("parts", x.parts(slot, 0, 0), Long.MIN_VALUE);
            Check.due("inner", x.inner(slot, 0), NONE);
            Check.due("inner", x.inner(0, slot), NONE);
            Check.due("kind", x.kind(slot, 0), NONE);
            Check.due("cut", x.cut(slot, 0, 0), NONE);
            Check.due("cut", x.cut(0, 0, slot), NONE);
        }
        for (int what : new int[] {-2, 9, LOW, HIGH}) {
            Check.due("partition", x.partition(0, Math.min(what, -2)), NONE);
            Check.due("core", x.core(0, Math.min(what, -2)), NONE);
            Check.due("of", x.of(0, what), NONE);
            Check.due("classOf", x.classOf(0, what), -2);
            Check.due("block", x.block(0, what), NONE);
            Check.due("parts", x.parts(0, 0, what), Long.MIN_VALUE);
            Check.due("kind", x.kind(0, what), NONE);
            Check.due("look", x.look(what), NONE);
        }
        Check.due("parts", x.parts(0, 0, -1), Long.MIN_VALUE);
        Check.due("classOf", x.classOf(0, -1), -2);
        Check.due("of", x.of(0, -1), NONE);
        Check.due("look", x.look(-1), NONE);
    }
}
