/** Boundary cases of promises 7 to 19: the tables of a group. */
public final class TableEdgesTest {
    private static final int NONE = PrimeBlocks.NONE;
    private static final int NO_CHARACTER = Edges.NO_CHARACTER;
    private static final int LOW = Edges.LOW;
    private static final int HIGH = Edges.HIGH;

    public static void main(String[] args) {
        edges().run();
    }

    static Edges edges() {
        Edges all = new Edges();
        addPartitions(all);
        addHooksAndClasses(all);
        addCharacters(all);
        addTableauxAndBlocks(all);
        return all;
    }

    private static void addPartitions(Edges all) {
        all.add("7 partition", "PART i of a PARTITION (0 beyond its last one)", TableEdgesTest::parts);
        all.add("7 how many parts", "i NONE: how many PARTS", TableEdgesTest::howManyParts);
        all.add("7 no partition", "NONE if there is none such", TableEdgesTest::noPartition);
        all.add("8 of 0", "Of a PARTITION what 0 REGULAR (1, 0)", TableEdgesTest::regular);
        all.add("8 of 1 2", "1 its WEIGHT, 2 its BLOCK", TableEdgesTest::weightAndBlock);
        all.add("8 of 3 4", "3 its DEGREE as CHARACTER, 4 RANK", TableEdgesTest::degreeAndRank);
        all.add("8 of 5", "5 the number of the one turned round at its diagonal", TableEdgesTest::turned);
        all.add("8 of 6", "6 whether that is itself (1, 0)", TableEdgesTest::turnedToItself);
        all.add("8 of 7", "7 which REGULAR one it is (from 0 on; NONE)", TableEdgesTest::whichRegular);
        all.add("8 no such", "NONE if there is none such, or another what", TableEdgesTest::noOf);
        all.add("9 core", "PART i of its CORE (0 beyond its last one)", TableEdgesTest::partsOfCore);
        all.add("9 core of what number", "i NONE: of what number it is", TableEdgesTest::numberOfCore);
        all.add("9 no core", "NONE if there is none such", TableEdgesTest::noCore);
    }

    private static void addHooksAndClasses(Edges all) {
        all.add("10 hook", "HOOK of the CELL in a row and column (from 0 on) of a PARTITION", TableEdgesTest::hooks);
        all.add("10 no hook", "NONE if there is none such", TableEdgesTest::noHook);
        all.add("11 class 0 1", "Of a CLASS what 0 how many permutations, 1 ORDER", TableEdgesTest::sizeAndOrder);
        all.add("11 class 2", "2 REGULAR", TableEdgesTest::regularClass);
        all.add("11 class 3", "3 SIGN (1, -1)", TableEdgesTest::sign);
        all.add("11 class 4", "4 how many permutations go with one of it both ways round", TableEdgesTest::goBothWays);
        all.add("11 no class", "NONE - 1 if there is none such, or another what", TableEdgesTest::noClass);
    }

    private static void addCharacters(Edges all) {
        all.add("12 character", "CHARACTER of a PARTITION at a CLASS", TableEdgesTest::characters);
        all.add("12 no character", "NONE - 1000 if there are none such", TableEdgesTest::noCharacter);
        all.add("13 modular", "MODULAR CHARACTER likewise", TableEdgesTest::modularOnes);
        all.add("13 no modular", "NONE - 1000, too: the PARTITION, the CLASS isn't REGULAR", TableEdgesTest::noModular);
        all.add("14 projective", "PROJECTIVE CHARACTER likewise", TableEdgesTest::projectiveOnes);
        all.add("14 no projective", "NONE - 1000, too: the PARTITION isn't REGULAR", TableEdgesTest::noProjective);
        all.add("15 decomposition", "DECOMPOSITION of a PARTITION by a REGULAR one", TableEdgesTest::decompositions);
        all.add("15 no decomposition", "NONE if there are none such", TableEdgesTest::noDecomposition);
        all.add("16 cartan", "CARTAN of two REGULAR PARTITIONS", TableEdgesTest::cartans);
        all.add("16 no cartan", "NONE if there are none such", TableEdgesTest::noCartan);
    }

    private static void addTableauxAndBlocks(Edges all) {
        all.add("17 tableau", "STANDARD TABLEAU t of a PARTITION: what stands in a row and column", TableEdgesTest::tableaux);
        all.add("17 how many tableaux", "row NONE: how many STANDARD ones (t and column don't matter)", TableEdgesTest::howManyTableaux);
        all.add("17 no tableau", "NONE if there is none such", TableEdgesTest::noTableau);
        all.add("18 gram", "FORM of two STANDARD ones of a PARTITION", TableEdgesTest::forms);
        all.add("18 no gram", "NONE - 1000 if there are none such", TableEdgesTest::noForm);
        all.add("19 block", "Of a BLOCK what 0 how many PARTITIONS, 1 how many REGULAR ones, 2 WEIGHT, 3 DEFECT, 4 its least PARTITION",
            TableEdgesTest::blocks);
        all.add("19 determinant", "5 the determinant of its CARTAN table", TableEdgesTest::determinants);
        all.add("19 how many blocks", "what NONE: how many BLOCKS", TableEdgesTest::howManyBlocks);
        all.add("19 no block", "NONE if there is none such, or another what", TableEdgesTest::noBlock);
    }

    /** Numbers that are none of a partition or class: there are this many. */
    private static int[] outside(int count) {
        return new int[] {-1, -2, -1000, count, count + 1, 11, 12, 100, LOW, HIGH};
    }

    private interface Outside {
        void look(PrimeBlocks x, int number);
    }

    private static void forAllOutside(Outside test) {
        int[] counts = {1, 2, 3, 5, 7, 11};
        for (int n = 1; n <= 6; n++) {
            for (int number : outside(counts[n - 1])) {
                test.look(Edges.in(n, 3), number);
            }
        }
    }

    private static void parts() {
        PrimeBlocks x = Edges.in(6, 3);
        Edges.dueRow("partition(0, i)", i -> x.partition(0, i), 6, 0, 0, 0, 0, 0, 0, 0);
        Edges.dueRow("partition(5, i)", i -> x.partition(5, i), 3, 2, 1, 0, 0, 0, 0, 0);
        Edges.dueRow("partition(10, i)", i -> x.partition(10, i), 1, 1, 1, 1, 1, 1, 0, 0);
        Edges.dueForAll("partition(10, i)", 0, i -> x.partition(10, i), 6, 7, 11, 1000, HIGH - 1, HIGH);
        PrimeBlocks one = Edges.in(1, 3);
        Edges.dueRow("partition(0, i) of 1", i -> one.partition(0, i), 1, 0, 0);
    }

    private static void howManyParts() {
        PrimeBlocks x = Edges.in(6, 3);
        Edges.dueRow("partition(k, NONE)", k -> x.partition(k, NONE), 1, 2, 2, 3, 2, 3, 4, 3, 4, 5, 6);
        Check.due("partition(0, NONE) of 1", Edges.in(1, 3).partition(0, NONE), 1);
    }

    private static void noPartition() {
        forAllOutside((x, k) -> {
            Edges.dueForAll("partition(" + k + ", i)", NONE, i -> x.partition(k, i), NONE, 0, 1, 6, HIGH);
        });
        PrimeBlocks x = Edges.in(6, 3);
        Edges.dueForAll("partition(0, i)", NONE, i -> x.partition(0, i), -2, -3, -1000, LOW, LOW + 1);
    }

    private static void regular() {
        PrimeBlocks x = Edges.in(4, 3);
        Edges.dueRow("of(k, 0)", k -> x.of(k, 0), 1, 1, 1, 1, 0);
        PrimeBlocks two = Edges.in(4, 2);
        Edges.dueRow("of(k, 0)", k -> two.of(k, 0), 1, 1, 0, 0, 0);
        Check.due("of(0, 0) of 1", Edges.in(1, 2).of(0, 0), 1);
    }

    private static void weightAndBlock() {
        PrimeBlocks x = Edges.in(4, 3);
        Edges.dueRow("of(k, 1)", k -> x.of(k, 1), 1, 0, 1, 0, 1);
        Edges.dueRow("of(k, 2)", k -> x.of(k, 2), 0, 1, 0, 2, 0);
        PrimeBlocks one = Edges.in(1, 2);
        Check.due("of(0, 1) of 1", one.of(0, 1), 0);
        Check.due("of(0, 2) of 1", one.of(0, 2), 0);
        PrimeBlocks seven = Edges.in(6, 7);
        Edges.dueRow("of(k, 2) of 6 at 7", k -> seven.of(k, 2), 0, 1, 2, 3, 4, 5, 6, 7, 8, 9, 10);
    }

    private static void degreeAndRank() {
        PrimeBlocks x = Edges.in(5, 2);
        Edges.dueRow("of(k, 3)", k -> x.of(k, 3), 1, 4, 5, 6, 5, 4, 1);
        Edges.dueRow("of(k, 4)", k -> x.of(k, 4), 1, 4, 4, 0, 0, 0, 0);
        PrimeBlocks one = Edges.in(1, 2);
        Check.due("of(0, 3) of 1", one.of(0, 3), 1);
        Check.due("of(0, 4) of 1", one.of(0, 4), 1);
    }

    private static void turned() {
        PrimeBlocks x = Edges.in(6, 2);
        Edges.dueRow("of(k, 5)", k -> x.of(k, 5), 10, 9, 8, 6, 7, 5, 3, 4, 2, 1, 0);
        Check.due("of(0, 5) of 1", Edges.in(1, 2).of(0, 5), 0);
        PrimeBlocks two = Edges.in(2, 2);
        Edges.dueRow("of(k, 5) of 2", k -> two.of(k, 5), 1, 0);
    }

    private static void turnedToItself() {
        PrimeBlocks six = Edges.in(6, 2);
        Edges.dueRow("of(k, 6) of 6", k -> six.of(k, 6), 0, 0, 0, 0, 0, 1, 0, 0, 0, 0, 0);
        PrimeBlocks five = Edges.in(5, 2);
        Edges.dueRow("of(k, 6) of 5", k -> five.of(k, 6), 0, 0, 0, 1, 0, 0, 0);
        PrimeBlocks four = Edges.in(4, 2);
        Edges.dueRow("of(k, 6) of 4", k -> four.of(k, 6), 0, 0, 1, 0, 0);
        PrimeBlocks two = Edges.in(2, 2);
        Edges.dueRow("of(k, 6) of 2", k -> two.of(k, 6), 0, 0);
        Check.due("of(0, 6) of 1", Edges.in(1, 2).of(0, 6), 1);
    }

    private static void whichRegular() {
        PrimeBlocks two = Edges.in(6, 2);
        Edges.dueRow("of(k, 7) at 2", k -> two.of(k, 7), 0, 1, 2, NONE, NONE, 3, NONE, NONE, NONE, NONE, NONE);
        PrimeBlocks three = Edges.in(6, 3);
        Edges.dueRow("of(k, 7) at 3", k -> three.of(k, 7), 0, 1, 2, 3, 4, 5, NONE, NONE, 6, NONE, NONE);
        PrimeBlocks seven = Edges.in(6, 7);
        Edges.dueRow("of(k, 7) at 7", k -> seven.of(k, 7), 0, 1, 2, 3, 4, 5, 6, 7, 8, 9, 10);
        Check.due("of(0, 7) of 1", Edges.in(1, 2).of(0, 7), 0);
    }

    private static void noOf() {
        forAllOutside((x, k) -> Edges.dueForAll("of(" + k + ", what)", NONE, what -> x.of(k, what), 0, 1, 2, 3, 4, 5, 6, 7, 8, NONE));
        PrimeBlocks x = Edges.in(6, 3);
        Edges.dueForAll("of(0, what)", NONE, what -> x.of(0, what), -1, -2, 8, 9, 10, LOW, HIGH);
    }

    private static void partsOfCore() {
        PrimeBlocks x = Edges.in(6, 2);
        Edges.dueRow("core(5, i)", i -> x.core(5, i), 3, 2, 1, 0, 0, 0, 0, 0);
        Edges.dueRow("core(0, i): nothing is left", i -> x.core(0, i), 0, 0, 0);
        Edges.dueForAll("core(5, i)", 0, i -> x.core(5, i), 3, 6, 7, 12, 1000, HIGH - 1, HIGH);
        PrimeBlocks seven = Edges.in(6, 7);
        Edges.dueRow("core(10, i): all is left", i -> seven.core(10, i), 1, 1, 1, 1, 1, 1, 0, 0);
        PrimeBlocks four = Edges.in(4, 3);
        Edges.dueRow("core(0, i) of 4 at 3", i -> four.core(0, i), 1, 0, 0);
    }

    private static void numberOfCore() {
        PrimeBlocks x = Edges.in(6, 2);
        Edges.dueRow("core(k, NONE) of 6 at 2", k -> x.core(k, NONE), 0, 0, 0, 0, 0, 6, 0, 0, 0, 0, 0);
        PrimeBlocks five = Edges.in(5, 2);
        Edges.dueRow("core(k, NONE) of 5 at 2", k -> five.core(k, NONE), 1, 3, 1, 1, 1, 3, 1);
        PrimeBlocks seven = Edges.in(6, 7);
        Edges.dueRow("core(k, NONE) of 6 at 7", k -> seven.core(k, NONE), 6, 6, 6, 6, 6, 6, 6, 6, 6, 6, 6);
        Check.due("core(0, NONE) of 1", Edges.in(1, 2).core(0, NONE), 1);
    }

    private static void noCore() {
        forAllOutside((x, k) -> Edges.dueForAll("core(" + k + ", i)", NONE, i -> x.core(k, i), NONE, 0, 1, 6, HIGH));
        PrimeBlocks x = Edges.in(6, 2);
        Edges.dueForAll("core(5, i)", NONE, i -> x.core(5, i), -2, -3, -1000, LOW, LOW + 1);
    }

    private static void hooks() {
        PrimeBlocks x = Edges.in(6, 2);
        Edges.dueRow("hook(5, 0, column)", column -> x.hook(5, 0, column), 5, 3, 1, NONE);
        Edges.dueRow("hook(5, 1, column)", column -> x.hook(5, 1, column), 3, 1, NONE);
        Edges.dueRow("hook(5, 2, column)", column -> x.hook(5, 2, column), 1, NONE);
        Edges.dueRow("hook(5, row, 0)", row -> x.hook(5, row, 0), 5, 3, 1, NONE);
        Edges.dueRow("hook(0, 0, column)", column -> x.hook(0, 0, column), 6, 5, 4, 3, 2, 1, NONE);
        Edges.dueRow("hook(10, row, 0)", row -> x.hook(10, row, 0), 6, 5, 4, 3, 2, 1, NONE);
        Check.due("hook(0, 0, 0) of 1", Edges.in(1, 2).hook(0, 0, 0), 1);
    }

    private static void noHook() {
        forAllOutside((x, k) -> Check.due("hook(" + k + ", 0, 0)", x.hook(k, 0, 0), NONE));
        PrimeBlocks x = Edges.in(6, 2);
        int[] wrong = {-1, -2, 3, 6, 7, 100, LOW, HIGH};
        Edges.dueForAll("hook(5, row, 0)", NONE, row -> x.hook(5, row, 0), wrong);
        Edges.dueForAll("hook(5, 0, column)", NONE, column -> x.hook(5, 0, column), wrong);
        Edges.dueForAll("hook(5, row, row)", NONE, row -> x.hook(5, row, row), wrong);
        Check.due("a cell of the row above alone", x.hook(1, 1, 1), NONE);
    }

    private static void sizeAndOrder() {
        PrimeBlocks x = Edges.in(5, 2);
        Edges.dueRow("classOf(k, 0)", k -> x.classOf(k, 0), 24, 30, 20, 20, 15, 10, 1);
        Edges.dueRow("classOf(k, 1)", k -> x.classOf(k, 1), 5, 4, 6, 3, 2, 2, 1);
        PrimeBlocks one = Edges.in(1, 2);
        Edges.dueRow("classOf(0, what) of 1", what -> one.classOf(0, what), 1, 1, 1, 1, 1, -2);
    }

    private static void regularClass() {
        PrimeBlocks x = Edges.in(5, 2);
        Edges.dueRow("classOf(k, 2) at 2", k -> x.classOf(k, 2), 1, 0, 0, 1, 0, 0, 1);
        PrimeBlocks three = Edges.in(5, 3);
        Edges.dueRow("classOf(k, 2) at 3", k -> three.classOf(k, 2), 1, 1, 0, 0, 1, 1, 1);
        PrimeBlocks seven = Edges.in(5, 7);
        Edges.dueRow("classOf(k, 2) at 7", k -> seven.classOf(k, 2), 1, 1, 1, 1, 1, 1, 1);
    }

    private static void sign() {
        PrimeBlocks five = Edges.in(5, 2);
        Edges.dueRow("classOf(k, 3) of 5", k -> five.classOf(k, 3), 1, -1, -1, 1, 1, -1, 1);
        PrimeBlocks six = Edges.in(6, 2);
        Edges.dueRow("classOf(k, 3) of 6", k -> six.classOf(k, 3), -1, 1, 1, -1, 1, -1, 1, -1, 1, -1, 1);
    }

    private static void goBothWays() {
        PrimeBlocks six = Edges.in(6, 2);
        Edges.dueRow("classOf(k, 4) of 6", k -> six.classOf(k, 4), 6, 5, 8, 8, 18, 6, 18, 48, 16, 48, 720);
        PrimeBlocks two = Edges.in(2, 2);
        Edges.dueRow("classOf(k, 4) of 2", k -> two.classOf(k, 4), 2, 2);
    }

    private static void noClass() {
        forAllOutside((x, k) -> Edges.dueForAll("classOf(" + k + ", what)", NONE - 1, what -> x.classOf(k, what), 0, 1, 2, 3, 4, 5, NONE));
        PrimeBlocks x = Edges.in(6, 3);
        Edges.dueForAll("classOf(0, what)", NONE - 1, what -> x.classOf(0, what), -1, -2, 5, 6, LOW, HIGH);
    }

    private static void characters() {
        PrimeBlocks x = Edges.in(6, 2);
        Edges.dueRow("character(0, c)", c -> x.character(0, c), 1, 1, 1, 1, 1, 1, 1, 1, 1, 1, 1);
        Edges.dueRow("character(5, c)", c -> x.character(5, c), 0, 1, 0, 0, -2, 0, -2, 0, 0, 0, 16);
        Edges.dueRow("character(10, c)", c -> x.character(10, c), -1, 1, 1, -1, 1, -1, 1, -1, 1, -1, 1);
        Check.due("character(0, 0) of 1", Edges.in(1, 2).character(0, 0), 1);
        // Where a class isn't regular it is told as well, unlike a modular one.
        Check.due("character(1, 0) of 2 at 2", Edges.in(2, 2).character(1, 0), -1);
    }

    private static void noCharacter() {
        forAllOutside((x, k) -> {
            Check.due("character(" + k + ", 0)", x.character(k, 0), NO_CHARACTER);
            Check.due("character(0, " + k + ")", x.character(0, k), NO_CHARACTER);
            Check.due("character(" + k + ", " + k + ")", x.character(k, k), NO_CHARACTER);
        });
    }

    private static void modularOnes() {
        PrimeBlocks x = Edges.in(5, 2);
        Edges.dueRow("modular(2, c)", c -> x.modular(2, c), -1, NO_CHARACTER, NO_CHARACTER, -2, NO_CHARACTER, NO_CHARACTER, 4);
        PrimeBlocks seven = Edges.in(4, 7);
        Edges.dueRow("modular(4, c) at 7", c -> seven.modular(4, c), -1, 1, 1, -1, 1);
        Check.due("modular(0, 0) of 1", Edges.in(1, 2).modular(0, 0), 1);
    }

    private static void noModular() {
        forAllOutside((x, k) -> {
            Check.due("modular(" + k + ", 0)", x.modular(k, x.look(2) - 1), NO_CHARACTER);
            Check.due("modular(0, " + k + ")", x.modular(0, k), NO_CHARACTER);
        });
        Edges.forAllGroups((x, n, p) -> {
            for (int k = 0; k < x.look(2); k++) {
                for (int c = 0; c < x.look(2); c++) {
                    boolean both = x.of(k, 0) == 1 && x.classOf(c, 2) == 1;
                    Check.due("group(" + n + ", " + p + ") modular(" + k + ", " + c + ") is none", x.modular(k, c) == NO_CHARACTER, !both);
                }
            }
        });
        PrimeBlocks x = new PrimeBlocks();
        Check.due("the partition isn't regular", x.modular(2, 2), NO_CHARACTER);
        Check.due("the class isn't regular", x.modular(0, 1), NO_CHARACTER);
        Check.due("neither is", x.modular(2, 1), NO_CHARACTER);
    }

    private static void projectiveOnes() {
        PrimeBlocks x = Edges.in(4, 2);
        Edges.dueRow("projective(0, c)", c -> x.projective(0, c), 0, 2, 0, 0, 8);
        Edges.dueRow("projective(1, c)", c -> x.projective(1, c), 0, -1, 0, 0, 8);
        PrimeBlocks seven = Edges.in(4, 7);
        Edges.dueRow("projective(4, c) at 7", c -> seven.projective(4, c), -1, 1, 1, -1, 1);
        Check.due("projective(0, 0) of 1", Edges.in(1, 2).projective(0, 0), 1);
    }

    private static void noProjective() {
        forAllOutside((x, k) -> {
            Check.due("projective(" + k + ", 0)", x.projective(k, 0), NO_CHARACTER);
            Check.due("projective(0, " + k + ")", x.projective(0, k), NO_CHARACTER);
        });
        Edges.forAllGroups((x, n, p) -> {
            for (int k = 0; k < x.look(2); k++) {
                for (int c = 0; c < x.look(2); c++) {
                    boolean none = x.projective(k, c) == NO_CHARACTER;
                    Check.due("group(" + n + ", " + p + ") projective(" + k + ", " + c + ") is none", none, x.of(k, 0) == 0);
                }
            }
        });
        Check.due("at a class that isn't regular there is one", new PrimeBlocks().projective(1, 1), 0);
    }

    private static void decompositions() {
        PrimeBlocks x = Edges.in(6, 3);
        // 3 2 1 has five, each once; the last regular one, 2 2 1 1, is number 8.
        Edges.dueRow("decomposition(5, by)", by -> x.decomposition(5, by), 1, 1, 0, 1, 1, 1, NONE, NONE, 0, NONE, NONE);
        Edges.dueRow("decomposition(8, by)", by -> x.decomposition(8, by), 0, 0, 0, 0, 0, 0, NONE, NONE, 1, NONE, NONE);
        Edges.dueRow("decomposition(10, by)", by -> x.decomposition(10, by), 0, 0, 0, 0, 1, 0, NONE, NONE, 0, NONE, NONE);
        Check.due("decomposition(0, 0) of 1", Edges.in(1, 2).decomposition(0, 0), 1);
    }

    private static void noDecomposition() {
        forAllOutside((x, k) -> {
            Check.due("decomposition(" + k + ", 0)", x.decomposition(k, 0), NONE);
            Check.due("decomposition(0, " + k + ")", x.decomposition(0, k), NONE);
        });
        Edges.forAllGroups((x, n, p) -> {
            for (int k = 0; k < x.look(2); k++) {
                for (int by = 0; by < x.look(2); by++) {
                    boolean none = x.decomposition(k, by) == NONE;
                    Check.due("group(" + n + ", " + p + ") decomposition(" + k + ", " + by + ") is none", none, x.of(by, 0) == 0);
                }
            }
        });
    }

    private static void cartans() {
        PrimeBlocks x = Edges.in(5, 5);
        int[][] due = {{2, 1, 0, 0, 0, 0}, {1, 2, 0, 1, 0, 0}, {0, 0, 1, 0, 0, 0}, {0, 1, 0, 2, 0, 1}, {0, 0, 0, 0, 1, 0}, {0, 0, 0, 1, 0, 2}};
        for (int k = 0; k < 6; k++) {
            for (int other = 0; other < 6; other++) {
                Check.due("cartan(" + k + ", " + other + ")", x.cartan(k, other), due[k][other]);
            }
        }
        Check.due("cartan(0, 0) of 1", Edges.in(1, 2).cartan(0, 0), 1);
    }

    private static void noCartan() {
        forAllOutside((x, k) -> {
            Check.due("cartan(" + k + ", 0)", x.cartan(k, 0), NONE);
            Check.due("cartan(0, " + k + ")", x.cartan(0, k), NONE);
        });
        Edges.forAllGroups((x, n, p) -> {
            for (int k = 0; k < x.look(2); k++) {
                for (int other = 0; other < x.look(2); other++) {
                    boolean both = x.of(k, 0) == 1 && x.of(other, 0) == 1;
                    Check.due("group(" + n + ", " + p + ") cartan(" + k + ", " + other + ") is none", x.cartan(k, other) == NONE, !both);
                }
            }
        });
    }

    private static void tableaux() {
        PrimeBlocks x = Edges.in(4, 2);
        int[][] rows = {{1, 2, 3}, {1, 2, 4}, {1, 3, 4}};
        int[] below = {4, 3, 2};
        for (int t = 0; t < 3; t++) {
            for (int column = 0; column < 3; column++) {
                Check.due("tableau(1, " + t + ", 0, " + column + ")", x.tableau(1, t, 0, column), rows[t][column]);
            }
            Check.due("tableau(1, " + t + ", 1, 0)", x.tableau(1, t, 1, 0), below[t]);
        }
        Edges.dueRow("tableau(4, 0, row, 0)", row -> x.tableau(4, 0, row, 0), 1, 2, 3, 4, NONE);
        Edges.dueRow("tableau(0, 0, 0, column)", column -> x.tableau(0, 0, 0, column), 1, 2, 3, 4, NONE);
        Check.due("tableau(0, 0, 0, 0) of 1", Edges.in(1, 2).tableau(0, 0, 0, 0), 1);
    }

    private static void howManyTableaux() {
        PrimeBlocks x = Edges.in(6, 2);
        Edges.dueRow("tableau(k, 0, NONE, 0)", k -> x.tableau(k, 0, NONE, 0), 1, 5, 9, 10, 5, 16, 10, 5, 9, 5, 1);
        int[] any = {-1, -2, 16, 17, LOW, HIGH};
        Edges.dueForAll("tableau(5, t, NONE, 0)", 16, t -> x.tableau(5, t, NONE, 0), any);
        Edges.dueForAll("tableau(5, 0, NONE, column)", 16, column -> x.tableau(5, 0, NONE, column), any);
        Edges.dueForAll("tableau(5, t, NONE, t)", 16, t -> x.tableau(5, t, NONE, t), any);
        forAllOutside((y, k) -> Check.due("tableau(" + k + ", 0, NONE, 0)", y.tableau(k, 0, NONE, 0), NONE));
    }

    private static void noTableau() {
        forAllOutside((x, k) -> Check.due("tableau(" + k + ", 0, 0, 0)", x.tableau(k, 0, 0, 0), NONE));
        PrimeBlocks x = Edges.in(6, 2);
        Edges.dueForAll("tableau(5, t, 0, 0)", NONE, t -> x.tableau(5, t, 0, 0), -1, -2, 16, 17, LOW, HIGH);
        Check.due("tableau(5, 15, 0, 0)", x.tableau(5, 15, 0, 0), 1);
        Edges.dueForAll("tableau(5, 0, row, 0)", NONE, row -> x.tableau(5, 0, row, 0), -2, 3, 6, LOW, HIGH);
        Edges.dueForAll("tableau(5, 0, 0, column)", NONE, column -> x.tableau(5, 0, 0, column), -1, -2, 3, 6, LOW, HIGH);
        Check.due("tableau(5, 0, 1, 2)", x.tableau(5, 0, 1, 2), NONE);
        Check.due("tableau(5, 0, 2, 1)", x.tableau(5, 0, 2, 1), NONE);
    }

    private static void forms() {
        PrimeBlocks x = Edges.in(3, 5);
        Check.due("gram(0, 0, 0)", x.gram(0, 0, 0), 1);
        Check.due("gram(1, 0, 0)", x.gram(1, 0, 0), 2);
        Check.due("gram(1, 0, 1)", x.gram(1, 0, 1), 1);
        Check.due("gram(1, 1, 0)", x.gram(1, 1, 0), 1);
        Check.due("gram(1, 1, 1)", x.gram(1, 1, 1), 2);
        Check.due("gram(2, 0, 0)", x.gram(2, 0, 0), 6);
        // Not modulo p: 720 at 2 stays what it is, and what is below 0 does so.
        PrimeBlocks six = Edges.in(6, 2);
        Check.due("gram(10, 0, 0)", six.gram(10, 0, 0), 720);
        Check.due("gram(3, 0, 2) of 4", Edges.in(4, 2).gram(3, 0, 2), -2);
        Check.due("gram(5, 15, 15)", six.gram(5, 15, 15), 12);
    }

    private static void noForm() {
        forAllOutside((x, k) -> Check.due("gram(" + k + ", 0, 0)", x.gram(k, 0, 0), NO_CHARACTER));
        PrimeBlocks x = Edges.in(6, 2);
        int[] wrong = {-1, -2, 16, 17, LOW, HIGH};
        Edges.dueForAll("gram(5, t, 0)", NO_CHARACTER, t -> x.gram(5, t, 0), wrong);
        Edges.dueForAll("gram(5, 0, t)", NO_CHARACTER, t -> x.gram(5, 0, t), wrong);
        Edges.dueForAll("gram(5, t, t)", NO_CHARACTER, t -> x.gram(5, t, t), wrong);
        Edges.dueForAll("gram(0, t, 0)", NO_CHARACTER, t -> x.gram(0, t, 0), 1, 2);
        Edges.dueForAll("gram(0, 0, t)", NO_CHARACTER, t -> x.gram(0, 0, t), 1, 2);
    }

    private static void blocks() {
        PrimeBlocks x = Edges.in(6, 3);
        int[][] due = {{9, 5, 2, 2, 0}, {1, 1, 0, 0, 2}, {1, 1, 0, 0, 8}};
        for (int b = 0; b < 3; b++) {
            int[] row = due[b];
            Edges.dueRow("block(" + b + ", what)", oneOf(x, b), row[0], row[1], row[2], row[3], row[4]);
        }
        PrimeBlocks two = Edges.in(5, 2);
        Edges.dueRow("block(0, what) of 5 at 2", what -> two.block(0, what), 5, 2, 2, 3, 0);
        Edges.dueRow("block(1, what) of 5 at 2", what -> two.block(1, what), 2, 1, 1, 1, 1);
        PrimeBlocks one = Edges.in(1, 2);
        Edges.dueRow("block(0, what) of 1", what -> one.block(0, what), 1, 1, 0, 0, 0, 1, NONE);
        PrimeBlocks seven = Edges.in(6, 7);
        Edges.dueRow("block(10, what) of 6 at 7", what -> seven.block(10, what), 1, 1, 0, 0, 10, 1, NONE);
    }

    private static java.util.function.IntToLongFunction oneOf(PrimeBlocks x, int b) {
        return what -> x.block(b, what);
    }

    private static void determinants() {
        int[][] due = {{2, 2, 0, 2}, {4, 2, 0, 8}, {5, 2, 0, 8}, {5, 2, 1, 2}, {6, 2, 0, 64}, {6, 2, 1, 1}, {3, 3, 0, 3}, {6, 3, 0, 81}, {6, 3, 1, 1},
            {5, 5, 0, 5}, {6, 5, 0, 5}, {6, 5, 6, 1}, {6, 7, 0, 1}, {1, 2, 0, 1}};
        for (int[] row : due) {
            Check.due("group(" + row[0] + ", " + row[1] + ") block(" + row[2] + ", 5)", Edges.in(row[0], row[1]).block(row[2], 5), row[3]);
        }
    }

    private static void howManyBlocks() {
        int[][] due = {{1, 2, 1}, {2, 2, 1}, {3, 2, 2}, {4, 2, 1}, {5, 2, 2}, {6, 2, 2}, {3, 3, 1}, {4, 3, 3}, {5, 3, 3}, {6, 3, 3}, {5, 5, 3}, {6, 5, 7},
            {6, 7, 11}};
        for (int[] row : due) {
            PrimeBlocks x = Edges.in(row[0], row[1]);
            Check.due("group(" + row[0] + ", " + row[1] + ") block(0, NONE)", x.block(0, NONE), row[2]);
            // It tells of no single block, so that b doesn't matter.
            Edges.dueForAll("block(b, NONE)", row[2], b -> x.block(b, NONE), -1, 1, row[2], 100, LOW, HIGH);
        }
    }

    private static void noBlock() {
        int[][] groups = {{1, 2, 1}, {3, 2, 2}, {6, 3, 3}, {6, 5, 7}, {6, 7, 11}};
        for (int[] row : groups) {
            PrimeBlocks x = Edges.in(row[0], row[1]);
            for (int what = 0; what < 6; what++) {
                int w = what;
                Edges.dueForAll("block(b, " + what + ")", NONE, b -> x.block(b, w), -1, -2, row[2], row[2] + 1, 11, LOW, HIGH);
            }
            Edges.dueForAll("block(0, what)", NONE, what -> x.block(0, what), -2, -3, 6, 7, LOW, HIGH);
        }
    }
}
