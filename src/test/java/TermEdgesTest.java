/** Boundary cases that the document's "What it is" and "Terms" name, before its third part: a test for each sentence. */
public final class TermEdgesTest {
    private static final int NONE = PrimeBlocks.NONE;

    public static void main(String[] args) {
        edges().run();
    }

    static Edges edges() {
        Edges all = new Edges();
        all.add("512 calls", "An object is used for at most 512 calls after it has been made", TermEdgesTest::lastCall);
        all.add("n from 1 to 6", "A GROUP: n (1 .. 6; 3 at first)", TermEdgesTest::numbersOfThings);
        all.add("p a small prime", "a PRIME p (2, 3, 5, 7; 2 at first)", TermEdgesTest::primes);
        all.add("parts of a partition", "PARTITIONS of n: PARTS that don't rise, together n", TermEdgesTest::partsOfPartitions);
        all.add("partitions in order", "numbered from 0 on, the one with the greatest first PART first, of like ones by the second one and so on",
            TermEdgesTest::orderOfPartitions);
        all.add("classes", "CLASS k: permutations whose cycles are as long as the PARTS of PARTITION k", TermEdgesTest::sizesOfClasses);
        all.add("order of a class", "ORDER of a CLASS: the least number that all its PARTS divide", TermEdgesTest::ordersOfClasses);
        all.add("regular class", "A CLASS is REGULAR, if p divides no PART", TermEdgesTest::regularClasses);
        all.add("regular partition", "a PARTITION is REGULAR, if no PART stands there p times or more", TermEdgesTest::regularPartitions);
        all.add("cells of a diagram", "DIAGRAM of a PARTITION: row i has PART i CELLS", TermEdgesTest::cells);
        all.add("hook of a cell", "HOOK of a CELL: the CELLS to the right of it, those below it, and itself", TermEdgesTest::hooks);
        all.add("standard", "it is STANDARD, if they rise along all rows and down all columns", TermEdgesTest::standardOnes);
        all.add("tableaux in order", "STANDARD ones are numbered from 0 on by what they have, row by row from the left (the lesser number at the first "
            + "unlike place first)", TermEdgesTest::orderOfTableaux);
        all.add("first and last character", "(n: 1 at all; 1 .. 1: the SIGN)", TermEdgesTest::firstAndLastCharacter);
        all.add("polytabloid", "sum over all permutations s of its columns (numbers stay in their column) of the SIGN of s times the TABLOID of s t",
            TermEdgesTest::signsOfForms);
        all.add("form", "FORM of two of them: of all TABLOIDS the products of what each has there, together", TermEdgesTest::least);
        all.add("rank modulo p", "RANK: that of GRAM modulo p", TermEdgesTest::ranks);
        all.add("rank above 0", "it is above 0 just if the PARTITION is REGULAR", TermEdgesTest::ranksAboveZero);
        all.add("degree is rank", "Its DEGREE is RANK", TermEdgesTest::modularDegrees);
        all.add("roots of 1", "d 1: 1, 2: -1, 3: -1, 4: 0, 5: -1, 6: 1", TermEdgesTest::rootsOfOne);
        all.add("one decomposition", "how often that MODULAR CHARACTER is in the CHARACTER at REGULAR CLASSES (there is one way alone)",
            TermEdgesTest::decompositions);
        all.add("cartan", "CARTAN of two REGULAR ones: sum over all PARTITIONS of products of both DECOMPOSITIONS", TermEdgesTest::cartans);
        all.add("projective", "PROJECTIVE CHARACTER of a REGULAR one: all CHARACTERS as often as their DECOMPOSITION by it", TermEdgesTest::projectives);
        all.add("projective is 0", "it is 0 at CLASSES that are not REGULAR", TermEdgesTest::projectiveZeros);
        all.add("core", "as long as it has a HOOK of p CELLS the rim of it goes (which first doesn't matter): what is left (PARTS of a lesser number)",
            TermEdgesTest::cores);
        all.add("weight", "WEIGHT: how often", TermEdgesTest::weights);
        all.add("blocks in order", "BLOCKS: PARTITIONS of one CORE, numbered from 0 on by their least PARTITION", TermEdgesTest::orderOfBlocks);
        all.add("defect", "DEFECT: by which power of p (p times WEIGHT)! can be divided", TermEdgesTest::defects);
        return all;
    }

    private static void lastCall() {
        PrimeBlocks groups = new PrimeBlocks();
        for (int call = 1; call <= 511; call++) {
            groups.group(1 + (call + 4) % 6, Edges.PRIMES[call % 4]);
        }
        // The 511th is group(6, 7).
        Check.due("512th call: character(5, 10)", groups.character(5, 10), 16);
        PrimeBlocks texts = new PrimeBlocks();
        int right = 0;
        for (int call = 1; call <= 510; call += 2) {
            texts.feed(0x58302B31, 0x20202020, 0x20202020, 0x20202020, 0x20202020);
            right += texts.text(0) == 0 ? 1 : 0;
        }
        Check.due("texts that were taken", right, 255);
        Check.due("511th call: value(0, 0)", texts.value(0, 0), 255);
        Check.due("512th call: parts(0, 0, 0)", texts.parts(0, 0, 0), 255);
    }

    private static void numbersOfThings() {
        Check.due("n at first", new PrimeBlocks().look(0), 3);
        PrimeBlocks x = new PrimeBlocks();
        Edges.dueRow("group(n, 2)", n -> x.group(n, 2), NONE, 1, 2, 3, 5, 7, 11, NONE, NONE);
        Edges.dueForAll("group(n, 2)", NONE, n -> x.group(n, 2), -1, -6, 12, 100, Edges.LOW, Edges.HIGH);
        Edges.dueRow("n!", n -> Edges.in(n + 1, 2).look(5), 1, 2, 6, 24, 120, 720);
    }

    private static void primes() {
        Check.due("p at first", new PrimeBlocks().look(1), 2);
        PrimeBlocks x = new PrimeBlocks();
        Edges.dueRow("group(3, p)", p -> x.group(3, p), NONE, NONE, 3, 3, NONE, 3, NONE, 3, NONE, NONE, NONE, NONE, NONE, NONE);
        Edges.dueForAll("group(3, p)", NONE, p -> x.group(3, p), -1, -2, -3, -5, -7, 15, 17, 258, Edges.LOW, Edges.HIGH);
    }

    private static void partsOfPartitions() {
        for (int n = 1; n <= 6; n++) {
            PrimeBlocks x = Edges.in(n, 2);
            for (int k = 0; k < x.look(2); k++) {
                int sum = 0;
                for (int i = 0; i < x.partition(k, NONE); i++) {
                    sum += x.partition(k, i);
                    Check.due("a part is there", x.partition(k, i) > 0, true);
                    Check.due("parts don't rise", i > 0 && x.partition(k, i) > x.partition(k, i - 1), false);
                }
                Check.due("parts together", sum, n);
            }
        }
    }

    private static void orderOfPartitions() {
        String[] due = {"1", "2 11", "3 21 111", "4 31 22 211 1111", "5 41 32 311 221 2111 11111",
            "6 51 42 411 33 321 3111 222 2211 21111 111111"};
        for (int n = 1; n <= 6; n++) {
            PrimeBlocks x = Edges.in(n, 2);
            StringBuilder told = new StringBuilder();
            for (int k = 0; k < x.look(2); k++) {
                told.append(k > 0 ? " " : "");
                for (int i = 0; i < x.partition(k, NONE); i++) {
                    told.append(x.partition(k, i));
                }
            }
            Check.due("partitions of " + n + " are " + told, told.toString().equals(due[n - 1]), true);
        }
    }

    private static void sizesOfClasses() {
        PrimeBlocks six = Edges.in(6, 2);
        Edges.dueRow("classOf(k, 0) of 6", k -> six.classOf(k, 0), 120, 144, 90, 90, 40, 120, 40, 15, 45, 15, 1);
        PrimeBlocks four = Edges.in(4, 2);
        Edges.dueRow("classOf(k, 0) of 4", k -> four.classOf(k, 0), 6, 8, 3, 6, 1);
        Check.due("classOf(0, 0) of 1", Edges.in(1, 2).classOf(0, 0), 1);
    }

    private static void ordersOfClasses() {
        PrimeBlocks six = Edges.in(6, 2);
        Edges.dueRow("classOf(k, 1) of 6", k -> six.classOf(k, 1), 6, 5, 4, 4, 3, 6, 3, 2, 2, 2, 1);
        PrimeBlocks five = Edges.in(5, 2);
        Edges.dueRow("classOf(k, 1) of 5", k -> five.classOf(k, 1), 5, 4, 6, 3, 2, 2, 1);
        Check.due("classOf(0, 1) of 1", Edges.in(1, 2).classOf(0, 1), 1);
    }

    private static void regularClasses() {
        String[] due = {"01001010001", "01110001111", "10111111111", "11111111111"};
        for (int i = 0; i < 4; i++) {
            PrimeBlocks x = Edges.in(6, Edges.PRIMES[i]);
            for (int k = 0; k < 11; k++) {
                Check.due("p " + Edges.PRIMES[i] + " classOf(" + k + ", 2)", x.classOf(k, 2), due[i].charAt(k) - '0');
            }
        }
        // A part that is p itself, and one that is p twice.
        Check.due("p 2, class 2", Edges.in(2, 2).classOf(0, 2), 0);
        Check.due("p 2, class 4", Edges.in(4, 2).classOf(0, 2), 0);
        Check.due("p 2, class 1", Edges.in(1, 2).classOf(0, 2), 1);
    }

    private static void regularPartitions() {
        String[] due = {"11100100000", "11111100100", "11111111110", "11111111111"};
        for (int i = 0; i < 4; i++) {
            PrimeBlocks x = Edges.in(6, Edges.PRIMES[i]);
            for (int k = 0; k < 11; k++) {
                Check.due("p " + Edges.PRIMES[i] + " of(" + k + ", 0)", x.of(k, 0), due[i].charAt(k) - '0');
            }
        }
        // 1 stands there p times, and once less.
        Check.due("p 5, 1 1 1 1 1", Edges.in(5, 5).of(6, 0), 0);
        Check.due("p 5, 1 1 1 1", Edges.in(4, 5).of(4, 0), 1);
        Check.due("p 3, 1 1 1", Edges.in(3, 3).of(2, 0), 0);
        Check.due("p 3, 1 1", Edges.in(2, 3).of(1, 0), 1);
        Check.due("p 2, 1 1", Edges.in(2, 2).of(1, 0), 0);
        Check.due("p 2, 1", Edges.in(1, 2).of(0, 0), 1);
    }

    private static void cells() {
        PrimeBlocks x = Edges.in(6, 2);
        // 4 1 1: the row has its last cell, and no other behind it.
        Check.due("hook(3, 0, 3)", x.hook(3, 0, 3), 1);
        Check.due("hook(3, 0, 4)", x.hook(3, 0, 4), NONE);
        Check.due("hook(3, 2, 0)", x.hook(3, 2, 0), 1);
        Check.due("hook(3, 1, 1)", x.hook(3, 1, 1), NONE);
        Check.due("hook(3, 3, 0)", x.hook(3, 3, 0), NONE);
        Edges.forAllGroups((any, n, p) -> {
            for (int k = 0; k < any.look(2); k++) {
                for (int row = 0; row < 7; row++) {
                    Check.due("last cell of a row", any.hook(k, row, any.partition(k, row) - 1) != NONE, any.partition(k, row) > 0);
                    Check.due("behind a row", any.hook(k, row, any.partition(k, row)), NONE);
                }
            }
        });
    }

    private static void hooks() {
        PrimeBlocks x = Edges.in(6, 2);
        Edges.dueRow("hook of 6", column -> x.hook(0, 0, column), 6, 5, 4, 3, 2, 1);
        Edges.dueRow("hook of 1 1 1 1 1 1", row -> x.hook(10, row, 0), 6, 5, 4, 3, 2, 1);
        Edges.dueRow("hook of 4 1 1", column -> x.hook(3, 0, column), 6, 3, 2, 1);
        Edges.dueRow("hook of 4 1 1", row -> x.hook(3, row, 0), 6, 2, 1);
        Edges.dueRow("hook of 3 3", column -> x.hook(4, 0, column), 4, 3, 2);
        Edges.dueRow("hook of 3 3", column -> x.hook(4, 1, column), 3, 2, 1);
        Check.due("hook of 1", Edges.in(1, 2).hook(0, 0, 0), 1);
    }

    private static void standardOnes() {
        Edges.forAllGroups((x, n, p) -> {
            for (int k = 0; p == 2 && k < x.look(2); k++) {
                for (int t = 0; t < x.tableau(k, 0, NONE, 0); t++) {
                    dueStandard(x, k, t, n);
                }
            }
        });
        PrimeBlocks six = Edges.in(6, 2);
        Edges.dueRow("how many of 6", k -> six.tableau(k, 0, NONE, 0), 1, 5, 9, 10, 5, 16, 10, 5, 9, 5, 1);
    }

    private static void dueStandard(Tables x, int k, int t, int n) {
        int seen = 0;
        for (int row = 0; row < x.partition(k, NONE); row++) {
            for (int column = 0; column < x.partition(k, row); column++) {
                int number = x.tableau(k, t, row, column);
                seen |= 1 << number;
                Check.due("rises along the row", column > 0 && x.tableau(k, t, row, column - 1) >= number, false);
                Check.due("rises down the column", row > 0 && x.tableau(k, t, row - 1, column) >= number, false);
            }
        }
        Check.due("1 .. n, each once", seen, (1 << n + 1) - 2);
    }

    private static void orderOfTableaux() {
        dueTableaux(5, 2, "12345", "12435", "12534", "13425", "13524");
        dueTableaux(5, 4, "12345", "12354", "13245", "13254", "14253");
        dueTableaux(4, 3, "1234", "1324", "1423");
        dueTableaux(2, 0, "12");
        dueTableaux(1, 0, "1");
        PrimeBlocks six = Edges.in(6, 2);
        Check.due("first of 3 2 1", told(six, 5, 0).equals("123456"), true);
        Check.due("second of 3 2 1", told(six, 5, 1).equals("123465"), true);
        Check.due("last of 3 2 1", told(six, 5, 15).equals("146253"), true);
    }

    private static void dueTableaux(int n, int k, String... due) {
        PrimeBlocks x = Edges.in(n, 2);
        Check.due("how many", x.tableau(k, 0, NONE, 0), due.length);
        for (int t = 0; t < due.length; t++) {
            Check.due("tableau " + t + " is " + told(x, k, t), told(x, k, t).equals(due[t]), true);
        }
    }

    private static String told(PrimeBlocks x, int k, int t) {
        StringBuilder told = new StringBuilder();
        for (int row = 0; row < x.partition(k, NONE); row++) {
            for (int column = 0; column < x.partition(k, row); column++) {
                told.append(x.tableau(k, t, row, column));
            }
        }
        return told.toString();
    }

    private static void firstAndLastCharacter() {
        Edges.forAllGroups((x, n, p) -> {
            int last = x.look(2) - 1;
            for (int c = 0; c <= last; c++) {
                int even = 0;
                for (int i = 0; i < x.partition(c, NONE); i++) {
                    even += x.partition(c, i) % 2 == 0 ? 1 : 0;
                }
                Check.due("character(0, " + c + ") of " + n, x.character(0, c), 1);
                // With n 1 both are the one partition that there is.
                Check.due("character(" + last + ", " + c + ") of " + n, x.character(last, c), even % 2 == 0 ? 1 : -1);
            }
        });
    }

    private static void signsOfForms() {
        PrimeBlocks x = Edges.in(4, 2);
        int[][] due = {{6, 2, -2}, {2, 6, 2}, {-2, 2, 6}};
        for (int t = 0; t < 3; t++) {
            for (int other = 0; other < 3; other++) {
                Check.due("gram(3, " + t + ", " + other + ")", x.gram(3, t, other), due[t][other]);
            }
        }
        // 2 2: each has 4 tabloids, of which two are the other's, too.
        Check.due("gram(2, 0, 0)", x.gram(2, 0, 0), 4);
        Check.due("gram(2, 1, 0)", x.gram(2, 1, 0), 2);
    }

    private static void least() {
        int[] factorials = {1, 2, 6, 24, 120, 720};
        for (int n = 1; n <= 6; n++) {
            PrimeBlocks x = Edges.in(n, 2);
            // With n 1 both are the one tableau that there is.
            Check.due("gram of " + n, x.gram(0, 0, 0), 1);
            Check.due("gram of 1 .. 1", x.gram(x.look(2) - 1, 0, 0), factorials[n - 1]);
        }
        PrimeBlocks x = Edges.in(5, 2);
        for (int t = 0; t < 4; t++) {
            for (int other = 0; other < 4; other++) {
                Check.due("gram of 4 1", x.gram(1, t, other), t == other ? 2 : 1);
            }
        }
    }

    private static void ranks() {
        PrimeBlocks two = Edges.in(5, 2);
        Edges.dueRow("of(k, 4) of 5 at 2", k -> two.of(k, 4), 1, 4, 4, 0, 0, 0, 0);
        PrimeBlocks three = Edges.in(6, 3);
        Edges.dueRow("of(k, 4) of 6 at 3", k -> three.of(k, 4), 1, 4, 9, 6, 1, 4, 0, 0, 9, 0, 0);
        PrimeBlocks five = Edges.in(5, 5);
        Edges.dueRow("of(k, 4) of 5 at 5", k -> five.of(k, 4), 1, 3, 5, 3, 5, 1, 0);
        // A prime above n divides nothing of it: the rank is full.
        PrimeBlocks seven = Edges.in(6, 7);
        Edges.dueRow("of(k, 4) of 6 at 7", k -> seven.of(k, 4), 1, 5, 9, 10, 5, 16, 10, 5, 9, 5, 1);
    }

    private static void ranksAboveZero() {
        Edges.forAllGroups((x, n, p) -> {
            for (int k = 0; k < x.look(2); k++) {
                Check.due("group(" + n + ", " + p + ") rank above 0", x.of(k, 4) > 0, x.of(k, 0) == 1);
                Check.due("no rank is below 0", x.of(k, 4) < 0, false);
            }
        });
    }

    private static void modularDegrees() {
        Edges.forAllGroups((x, n, p) -> {
            int unmoved = x.look(2) - 1;
            for (int k = 0; k < x.look(2); k++) {
                int due = x.of(k, 0) == 1 ? x.of(k, 4) : Edges.NO_CHARACTER;
                Check.due("group(" + n + ", " + p + ") modular(" + k + ", " + unmoved + ")", x.modular(k, unmoved), due);
            }
        });
        Check.due("modular(1, 6) of 5 at 5", Edges.in(5, 5).modular(1, 6), 3);
    }

    /** Modules that are less than the ordinary one, so that their characters come from roots: all orders from 1 to 6. */
    private static void rootsOfOne() {
        int none = Edges.NO_CHARACTER;
        PrimeBlocks two = Edges.in(6, 2);
        Edges.dueRow("modular(1, c) of 6 at 2", c -> two.modular(1, c), none, -1, none, none, -2, none, 1, none, none, none, 4);
        Edges.dueRow("modular(2, c) of 6 at 2", c -> two.modular(2, c), none, -1, none, none, 1, none, -2, none, none, none, 4);
        PrimeBlocks three = Edges.in(6, 3);
        Edges.dueRow("modular(1, c) of 6 at 3", c -> three.modular(1, c), none, -1, -2, 0, none, none, none, -2, 0, 2, 4);
        PrimeBlocks five = Edges.in(5, 5);
        Edges.dueRow("modular(1, c) of 5 at 5", c -> five.modular(1, c), none, -1, -2, 0, -1, 1, 3);
        PrimeBlocks sixAtFive = Edges.in(6, 5);
        Edges.dueRow("modular(2, c) of 6 at 5", c -> sixAtFive.modular(2, c), -1, none, 0, -2, -1, -1, -1, 2, 0, 2, 8);
    }

    private static void decompositions() {
        Edges.forAllGroups((x, n, p) -> {
            for (int k = 0; k < x.look(2); k++) {
                for (int by = 0; by < x.look(2); by++) {
                    if (x.of(by, 0) == 1 && by >= k) {
                        Check.due("group(" + n + ", " + p + ") decomposition(" + k + ", " + by + ")", x.decomposition(k, by), by == k ? 1 : 0);
                    }
                }
                dueDecomposed(x, k);
            }
        });
        Check.due("twice", Edges.in(5, 2).decomposition(3, 0), 2);
        Check.due("twice", Edges.in(6, 2).decomposition(6, 0), 2);
    }

    private static void dueDecomposed(Tables x, int k) {
        for (int c = 0; c < x.look(2); c++) {
            int sum = 0;
            for (int by = 0; x.classOf(c, 2) == 1 && by < x.look(2); by++) {
                sum += x.of(by, 0) == 1 ? x.decomposition(k, by) * x.modular(by, c) : 0;
            }
            if (x.classOf(c, 2) == 1) {
                Check.due("character(" + k + ", " + c + ") from modular ones", x.character(k, c), sum);
            }
        }
    }

    private static void cartans() {
        int[][] due = {{16, 8, 8, NONE, NONE, 0}, {8, 6, 4, NONE, NONE, 0}, {8, 4, 6, NONE, NONE, 0}, {NONE, NONE, NONE, NONE, NONE, NONE},
            {NONE, NONE, NONE, NONE, NONE, NONE}, {0, 0, 0, NONE, NONE, 1}};
        PrimeBlocks x = Edges.in(6, 2);
        for (int k = 0; k < 6; k++) {
            for (int other = 0; other < 6; other++) {
                Check.due("cartan(" + k + ", " + other + ")", x.cartan(k, other), due[k][other]);
            }
        }
        // A prime above n: each is in itself alone.
        PrimeBlocks seven = Edges.in(6, 7);
        for (int k = 0; k < 11; k++) {
            for (int other = 0; other < 11; other++) {
                Check.due("cartan of 6 at 7", seven.cartan(k, other), k == other ? 1 : 0);
            }
        }
    }

    private static void projectives() {
        PrimeBlocks x = Edges.in(5, 5);
        // 5 and 4 1 together: at a cycle of 5 that is 1 and -1.
        Edges.dueRow("projective(0, c)", c -> x.projective(0, c), 0, 1, 0, 2, 1, 3, 5);
        // 3 2 is alone in its block.
        Edges.dueRow("projective(2, c)", c -> x.projective(2, c), 0, -1, 1, -1, 1, 1, 5);
        PrimeBlocks two = Edges.in(5, 2);
        // 5, 3 2, twice 3 1 1, 2 2 1, 1 1 1 1 1.
        Check.due("projective(0, 6) of 5 at 2", two.projective(0, 6), 24);
        Check.due("projective(0, 0) of 5 at 2", two.projective(0, 0), 4);
    }

    private static void projectiveZeros() {
        Edges.forAllGroups((x, n, p) -> {
            for (int k = 0; k < x.look(2); k++) {
                for (int c = 0; c < x.look(2); c++) {
                    if (x.of(k, 0) == 1 && x.classOf(c, 2) == 0) {
                        Check.due("group(" + n + ", " + p + ") projective(" + k + ", " + c + ")", x.projective(k, c), 0);
                    }
                }
            }
        });
        Check.due("projective(0, 1)", new PrimeBlocks().projective(0, 1), 0);
    }

    private static void cores() {
        dueCore(6, 2, 0, 0);
        dueCore(6, 2, 5, 3, 2, 1);
        dueCore(5, 2, 0, 1);
        dueCore(5, 2, 1, 2, 1);
        // 3 3 at 3 has hooks of 3 in both rows: whichever goes first, nothing is left.
        dueCore(6, 3, 4, 0);
        dueCore(6, 3, 2, 4, 2);
        dueCore(4, 3, 3, 2, 1, 1);
        dueCore(4, 3, 2, 1);
        dueCore(5, 3, 0, 2);
        dueCore(5, 3, 2, 1, 1);
        dueCore(6, 5, 10, 1);
        dueCore(6, 5, 9, 2, 1, 1, 1, 1);
        dueCore(5, 5, 3, 0);
        dueCore(4, 5, 4, 1, 1, 1, 1);
        dueCore(6, 7, 0, 6);
        dueCore(1, 2, 0, 1);
        dueCore(2, 2, 1, 0);
    }

    private static void dueCore(int n, int p, int k, int... parts) {
        PrimeBlocks x = Edges.in(n, p);
        int sum = 0;
        for (int i = 0; i < 7; i++) {
            int due = i < parts.length ? parts[i] : 0;
            sum += due;
            Check.due("group(" + n + ", " + p + ") core(" + k + ", " + i + ")", x.core(k, i), due);
        }
        Check.due("group(" + n + ", " + p + ") core(" + k + ", NONE)", x.core(k, NONE), sum);
    }

    private static void weights() {
        PrimeBlocks two = Edges.in(6, 2);
        Edges.dueRow("of(k, 1) of 6 at 2", k -> two.of(k, 1), 3, 3, 3, 3, 3, 0, 3, 3, 3, 3, 3);
        PrimeBlocks three = Edges.in(6, 3);
        Edges.dueRow("of(k, 1) of 6 at 3", k -> three.of(k, 1), 2, 2, 0, 2, 2, 2, 2, 2, 0, 2, 2);
        PrimeBlocks five = Edges.in(6, 5);
        Edges.dueRow("of(k, 1) of 6 at 5", k -> five.of(k, 1), 1, 0, 1, 0, 0, 1, 0, 0, 1, 0, 1);
        PrimeBlocks seven = Edges.in(6, 7);
        Edges.dueRow("of(k, 1) of 6 at 7", k -> seven.of(k, 1), 0, 0, 0, 0, 0, 0, 0, 0, 0, 0, 0);
        PrimeBlocks mixed = Edges.in(5, 2);
        Edges.dueRow("of(k, 1) of 5 at 2", k -> mixed.of(k, 1), 2, 1, 2, 2, 2, 1, 2);
    }

    private static void orderOfBlocks() {
        PrimeBlocks five = Edges.in(6, 5);
        Edges.dueRow("of(k, 2) of 6 at 5", k -> five.of(k, 2), 0, 1, 0, 2, 3, 0, 4, 5, 0, 6, 0);
        Edges.dueRow("block(b, 4) of 6 at 5", b -> five.block(b, 4), 0, 1, 3, 4, 6, 7, 9, NONE);
        PrimeBlocks two = Edges.in(5, 2);
        Edges.dueRow("of(k, 2) of 5 at 2", k -> two.of(k, 2), 0, 1, 0, 0, 0, 1, 0);
        PrimeBlocks three = Edges.in(5, 3);
        Edges.dueRow("of(k, 2) of 5 at 3", k -> three.of(k, 2), 0, 1, 1, 2, 0, 0, 1);
        Check.due("blocks of 1", Edges.in(1, 2).look(4), 1);
    }

    private static void defects() {
        int[][] due = {{6, 2, 0, 4}, {6, 2, 1, 0}, {5, 2, 0, 3}, {5, 2, 1, 1}, {4, 2, 0, 3}, {2, 2, 0, 1}, {1, 2, 0, 0}, {6, 3, 0, 2},
            {6, 3, 1, 0}, {3, 3, 0, 1}, {2, 3, 0, 0}, {5, 5, 0, 1}, {6, 5, 0, 1}, {6, 7, 0, 0}};
        for (int[] row : due) {
            Check.due("group(" + row[0] + ", " + row[1] + ") block(" + row[2] + ", 3)", Edges.in(row[0], row[1]).block(row[2], 3), row[3]);
        }
    }
}
