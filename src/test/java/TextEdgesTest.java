/** Boundary cases of the third part of the document's "Terms": slots, the tape, texts, faults, WITHIN, PARTS. */
public final class TextEdgesTest {
    private static final int NONE = PrimeBlocks.NONE;
    private static final String GREATEST = "1000*1000*1000*1000";
    private static final long LIMIT = 1000000000000L;

    public static void main(String[] args) {
        edges().run();
    }

    static Edges edges() {
        Edges all = new Edges();
        all.add("slots 0 to 5", "SLOTS 0 .. 5", TextEdgesTest::slots);
        all.add("whole number for each class", "a FUNCTION: a whole number for each CLASS", TextEdgesTest::allClasses);
        all.add("slots 0 at first", "(0 at first", TextEdgesTest::slotsAtFirst);
        all.add("slots 0 anew", "all of them 0 anew with a GROUP)", TextEdgesTest::slotsAnew);
        all.add("tape of 200", "THE TAPE has 200 bytes", TextEdgesTest::tape);
        addGrammar(all);
        addFunctions(all);
        addFaults(all);
        addGreat(all);
        addWithin(all);
        return all;
    }

    private static void addGrammar(Edges all) {
        all.add("text is a sum", "A TEXT: SUM", TextEdgesTest::texts);
        all.add("sum", "SUM: TERM { (\"+\" | \"-\") TERM }", TextEdgesTest::sums);
        all.add("term", "TERM: FACTOR { \"*\" FACTOR }", TextEdgesTest::terms);
        all.add("factor", "FACTOR: NUMBER | [ \"D\" | \"P\" | \"M\" ] \"[\" NUMBER { \",\" NUMBER } \"]\" | \"S\" | \"X\" NUMBER | \"(\" SUM \")\"",
            TextEdgesTest::factors);
        all.add("number of 1 to 4 digits", "NUMBER: 1 to 4 digits that stand together", TextEdgesTest::numbers);
        all.add("blanks", "Blanks (32, 10) between", TextEdgesTest::blanks);
    }

    private static void addFunctions(Edges all) {
        all.add("number at all classes", "A NUMBER is it at all CLASSES", TextEdgesTest::constants);
        all.add("[..]", "[..] the CHARACTER of that PARTITION", TextEdgesTest::ordinaryOnes);
        all.add("D", "D the MODULAR one (0 where the CLASS isn't REGULAR)", TextEdgesTest::modularOnes);
        all.add("P", "P the PROJECTIVE one", TextEdgesTest::projectiveOnes);
        all.add("M", "M at a permutation how many TABLOIDS of that PARTITION it leaves as they are", TextEdgesTest::tabloids);
        all.add("S", "S the SIGN", TextEdgesTest::signs);
        all.add("X", "X a SLOT as it is now", TextEdgesTest::slotsAsTheyAre);
        all.add("class by class", "sums and products CLASS by CLASS", TextEdgesTest::classByClass);
    }

    private static void addFaults(Edges all) {
        all.add("first fault", "FAULTS, the first that is met as it is read from the left", TextEdgesTest::firstFault);
        all.add("fault 1", "1 what can't stand there (at it", TextEdgesTest::wrongSigns);
        all.add("fault 1 at 5 digits", "a NUMBER of 5 digits at its begin", TextEdgesTest::longNumbers);
        all.add("fault 1 at the end", "the end: its length)", TextEdgesTest::ends);
        all.add("fault 2", "2 no PARTITION of n (at its \"[\")", TextEdgesTest::noPartitions);
        all.add("fault 3", "3 D or P of one that isn't REGULAR (at the letter)", TextEdgesTest::notRegular);
        all.add("fault 4", "4 no such SLOT (at its NUMBER)", TextEdgesTest::noSlots);
        all.add("fault 5", "5 the 5th \"(\" that is open (at it)", TextEdgesTest::tooDeep);
    }

    private static void addGreat(Edges all) {
        all.add("fault 6 above", "6 a number above 1000000000000", TextEdgesTest::above);
        all.add("fault 6 below", "or below -1000000000000", TextEdgesTest::below);
        all.add("fault 6 at some class", "at some CLASS", TextEdgesTest::atSomeClass);
        all.add("fault 6 of what is made", "(of a product or sum that is made: at its sign", TextEdgesTest::atItsSign);
        all.add("fault 6 as terms are met", "TERMS as they are met: a + b + c is a + b, then c)", TextEdgesTest::asTheyAreMet);
    }

    private static void addWithin(Edges all) {
        all.add("within but 1", "WITHIN: of a FAULT but 1", TextEdgesTest::nothingWithin);
        all.add("within", "places at which FACTOR, TERM, SUM begin that are begun there, from within outwards", TextEdgesTest::within);
        all.add("within of 6", "(of 6 of a product TERM, SUM ..; of a sum SUM ..)", TextEdgesTest::withinOfGreat);
        all.add("parts by n!", "how often an ordinary CHARACTER is in it: sum over all permutations of both, by n!", TextEdgesTest::ordinaryParts);
        all.add("modular parts by n!", "how often a MODULAR one: sum over all permutations in REGULAR CLASSES of it and that PROJECTIVE CHARACTER, "
            + "by n!", TextEdgesTest::modularParts);
    }

    private static PrimeBlocks three() {
        return new PrimeBlocks();
    }

    /** A new object, with n 3 and p 2, must refuse the text. */
    private static void refused(String text, int fault, int place, int... within) {
        Check.dueFault(three(), text, fault, place, within);
    }

    private static void taken(String text, long... values) {
        Check.dueValues(three(), text, values);
    }

    private static void slots() {
        PrimeBlocks x = three();
        Edges.dueRow("text", slot -> Check.read(x, "" + (slot + 1), slot), 0, 0, 0, 0, 0, 0, -2, -2);
        Check.due("text(-1)", Check.read(x, "1", -1), -2);
        Edges.dueRow("value", slot -> x.value(slot, 0), 1, 2, 3, 4, 5, 6, Long.MIN_VALUE);
        Edges.dueRow("text with X", slot -> Check.read(x, "X" + slot, 0), 0, 0, 0, 0, 0, 0, NONE, NONE);
    }

    private static void allClasses() {
        PrimeBlocks six = Edges.in(6, 2);
        Check.due("text", Check.read(six, "M[1,1,1,1,1,1]+7", 5), 0);
        Edges.dueRow("value", c -> six.value(5, c), 7, 7, 7, 7, 7, 7, 7, 7, 7, 7, 727, Long.MIN_VALUE);
        PrimeBlocks one = Edges.in(1, 2);
        Check.due("text", Check.read(one, "7", 5), 0);
        Edges.dueRow("value", c -> one.value(5, c), 7, Long.MIN_VALUE);
    }

    private static void slotsAtFirst() {
        for (int slot = 0; slot < 6; slot++) {
            int s = slot;
            PrimeBlocks x = three();
            Edges.dueRow("value(" + slot + ", c) at first", c -> x.value(s, c), 0, 0, 0);
            Check.dueValues(x, "X" + slot, 0, 0, 0);
        }
    }

    private static void slotsAnew() {
        PrimeBlocks x = Edges.in(6, 3);
        int[][] groups = {{6, 3}, {6, 2}, {5, 2}, {6, 2}, {1, 7}, {6, 3}};
        for (int[] group : groups) {
            for (int slot = 0; slot < 6; slot++) {
                Check.due("text", Check.read(x, "7", slot), 0);
            }
            Check.due("none is 0", x.look(7), 63);
            Check.due("another n, p", x.group(7, 4), NONE);
            Check.due("stays with no group", x.look(7), 63);
            Check.due("group", x.group(group[0], group[1]), x.look(2));
            Check.due("all are 0", x.look(7), 0);
            for (int slot = 0; slot < 6; slot++) {
                int s = slot;
                Edges.dueRow("value", c -> x.value(s, c), new long[x.look(2)]);
            }
        }
    }

    private static void tape() {
        // All 200 bytes are read: what stands at the last one counts.
        taken(" ".repeat(199) + "7", 7, 7, 7);
        refused("7" + " ".repeat(198) + "?", 1, 199);
        refused("7+" + " ".repeat(198), 1, 200);
        taken("1" + "+1".repeat(99) + " ", 100, 100, 100);
        PrimeBlocks x = three();
        for (int i = 1; i <= 10; i++) {
            Check.due("feed", x.feed(0, 0, 0, 0, 0), 20 * i);
        }
        Check.due("feed behind 200", x.feed(0, 0, 0, 0, 0), NONE);
        Check.due("look(6)", x.look(6), 200);
    }

    private static void texts() {
        refused("", 1, 0);
        refused("1)", 1, 1);
        refused("1,1", 1, 1);
        refused("1]", 1, 1);
        refused("(1)(1)", 1, 3);
        taken("1", 1, 1, 1);
    }

    private static void sums() {
        taken("9-3-2", 4, 4, 4);
        taken("9-3+2", 8, 8, 8);
        taken("1-9", -8, -8, -8);
        refused("+1", 1, 0);
        refused("-1", 1, 0);
        refused("1+", 1, 2);
        refused("1-", 1, 2);
        refused("1+-1", 1, 2);
        refused("(-1)", 1, 1);
    }

    private static void terms() {
        taken("2*3*4", 24, 24, 24);
        taken("2+3*4-5*6", -16, -16, -16);
        refused("*2", 1, 0);
        refused("2*", 1, 2);
        refused("2**3", 1, 2);
        refused("2*-3", 1, 2);
        refused("2S", 1, 1);
        refused("2/3", 1, 1);
    }

    private static void factors() {
        taken("7+[3]+D[3]+P[2,1]+M[1,1,1]+S+X5+(7)", 16, 14, 25);
        String[] alone = {"D", "P", "M", "X", "[", "("};
        for (String sign : alone) {
            refused(sign, 1, 1);
            refused(sign + ")", 1, 1);
            refused(sign + "]", 1, 1);
        }
        refused("D3", 1, 1);
        refused("D(3)", 1, 1);
        refused("DP[3]", 1, 1);
        refused("X[3]", 1, 1);
        refused("XS", 1, 1);
        refused("S[3]", 1, 1);
        refused("[S]", 1, 1);
        refused("[X0]", 1, 1);
        refused("[(3)]", 1, 1);
        refused("[,3]", 1, 1);
        refused("[3,]", 1, 3);
        refused("[3)", 1, 2);
        refused("(3]", 1, 2);
        refused("(3", 1, 2);
        refused("[3", 1, 2);
        refused("[2 1]", 1, 3);
        for (String sign : new String[] {"A", "C", "E", "L", "N", "O", "Q", "R", "T", "W", "Y", "Z", "d", "m", "p", "s", "x", "{", "."}) {
            refused(sign + "[3]", 1, 0);
        }
    }

    private static void numbers() {
        taken("0", 0, 0, 0);
        taken("9999", 9999, 9999, 9999);
        taken("0000", 0, 0, 0);
        taken("0010*0203", 2030, 2030, 2030);
        taken("4567+8", 4575, 4575, 4575);
        taken("[0002,01]+X0005", -1, 0, 2);
        refused("10000", 1, 0);
        refused("00000", 1, 0);
        refused("12 34", 1, 3);
        refused("1 2", 1, 2);
        // The signs beside the digits are none.
        refused("/", 1, 0);
        refused(":", 1, 0);
        refused("1/", 1, 1);
        refused("1:", 1, 1);
    }

    private static void blanks() {
        taken(" \n( 1 \n) *\n7 - X\n\n5+ D [\n2 , 1\n] \n", 6, 7, 9);
        taken("\n7\n", 7, 7, 7);
        taken(" 7 ", 7, 7, 7);
        for (int other : new int[] {0, 9, 11, 12, 13, 31, 33, 127, 128, 138, 160, 255}) {
            refused("1 +" + (char) other + "1", 1, 3);
            refused("1" + (char) other, 1, 1);
        }
    }

    private static void constants() {
        Check.dueValues(Edges.in(6, 2), "12", 12, 12, 12, 12, 12, 12, 12, 12, 12, 12, 12);
        Check.dueValues(Edges.in(1, 2), "0", 0);
        Check.dueValues(Edges.in(4, 7), "9999", 9999, 9999, 9999, 9999, 9999);
    }

    private static void ordinaryOnes() {
        Check.dueValues(Edges.in(4, 2), "[4]", 1, 1, 1, 1, 1);
        Check.dueValues(Edges.in(4, 2), "[2,2]", 0, -1, 2, 0, 2);
        Check.dueValues(Edges.in(4, 2), "[1,1,1,1]", -1, 1, 1, -1, 1);
        Check.dueValues(Edges.in(1, 2), "[1]", 1);
        // An earlier partition's parts are all that tells it from a later one.
        Check.dueValues(Edges.in(4, 2), "[2,1,1]", 1, 0, -1, -1, 3);
    }

    private static void modularOnes() {
        Check.dueValues(three(), "D[3]", 1, 0, 1);
        Check.dueValues(three(), "D[2,1]", -1, 0, 2);
        Check.dueValues(Edges.in(5, 5), "D[4,1]", 0, -1, -2, 0, -1, 1, 3);
        Check.dueValues(Edges.in(5, 7), "D[5]", 1, 1, 1, 1, 1, 1, 1);
        Check.dueValues(Edges.in(2, 2), "D[2]", 0, 1);
    }

    private static void projectiveOnes() {
        Check.dueValues(three(), "P[3]", 2, 0, 2);
        Check.dueValues(three(), "P[2,1]", -1, 0, 2);
        Check.dueValues(Edges.in(4, 2), "P[4]", 0, 2, 0, 0, 8);
        Check.dueValues(Edges.in(2, 2), "P[2]", 0, 2);
        Check.dueValues(Edges.in(1, 7), "P[1]", 1);
    }

    private static void tabloids() {
        Check.dueValues(three(), "M[3]", 1, 1, 1);
        Check.dueValues(three(), "M[2,1]", 0, 1, 3);
        Check.dueValues(three(), "M[1,1,1]", 0, 0, 6);
        Check.dueValues(Edges.in(4, 2), "M[2,2]", 0, 0, 2, 2, 6);
        Check.dueValues(Edges.in(6, 2), "M[2,2,2]", 0, 0, 0, 0, 0, 0, 0, 6, 6, 18, 90);
        Check.dueValues(Edges.in(1, 2), "M[1]", 1);
    }

    private static void signs() {
        Check.dueValues(Edges.in(4, 2), "S", -1, 1, 1, -1, 1);
        Check.dueValues(Edges.in(1, 2), "S", 1);
        Check.dueValues(Edges.in(2, 2), "S", -1, 1);
    }

    private static void slotsAsTheyAre() {
        PrimeBlocks x = three();
        Check.dueValues(x, "X0+1", 1, 1, 1);
        Check.dueValues(x, "X0+X0*S", 2, 0, 2);
        Check.due("text", Check.read(x, "X0", 1), 0);
        Check.dueValues(x, "5", 5, 5, 5);
        Edges.dueRow("a slot that was made of another stays", c -> x.value(1, c), 2, 0, 2);
        // A text that isn't taken changes no slot that it names.
        Check.dueFault(x, "X0+9+?", 1, 5);
        Check.dueValues(x, "X0", 5, 5, 5);
        x.group(4, 2);
        Check.dueValues(x, "X0+X1", 0, 0, 0, 0, 0);
    }

    private static void classByClass() {
        Check.dueValues(three(), "M[2,1]+S", 1, 0, 4);
        Check.dueValues(three(), "M[2,1]-S", -1, 2, 2);
        Check.dueValues(three(), "(M[2,1]+2)*S", 2, -3, 5);
        Check.dueValues(three(), "[2,1]*[2,1]*[2,1]", -1, 0, 8);
    }

    private static void firstFault() {
        refused("[9]+?", 2, 0, 0, 0, 0);
        refused("?+[9]", 1, 0);
        refused("[9]?", 2, 0, 0, 0, 0);
        refused("[9?", 1, 2);
        refused("[9,9", 1, 4);
        refused("X9*D[1,1,1]", 4, 1, 0, 0, 0);
        refused("D[1,1,1]*X9", 3, 0, 0, 0, 0);
        refused("D[1,1,1]?", 3, 0, 0, 0, 0);
        refused("D[1,1]", 2, 1, 0, 0, 0);
        refused("X9?", 4, 1, 0, 0, 0);
        refused("X99999", 1, 1);
        refused("((((?", 1, 4);
        refused("[9]+(((((", 2, 0, 0, 0, 0);
        refused(GREATEST + "*2?", 6, 19, 0, 0);
        refused(GREATEST + "*?", 1, 20);
        refused(GREATEST + "*[9]", 2, 20, 20, 0, 0);
        refused(GREATEST + "+1?", 6, 19, 0);
        refused(GREATEST + "+1*X9", 4, 23, 22, 20, 0);
        refused(GREATEST + "+1*?", 1, 22);
    }

    private static void wrongSigns() {
        refused("?", 1, 0);
        refused("  ?", 1, 2);
        refused("1 ?", 1, 2);
        refused("1+ ?", 1, 3);
        refused("[ ?3]", 1, 2);
        refused("[3 ?]", 1, 3);
        refused("X ?", 1, 2);
        refused("D ?", 1, 2);
        refused("(1 ?)", 1, 3);
        refused("((1) ", 1, 5);
        for (int sign = 0; sign < 256; sign++) {
            boolean begins = sign >= '0' && sign <= '9' || sign == 'S';
            if (!begins && sign != ' ' && sign != '\n') {
                int place = "DPMX[(".indexOf(sign) >= 0 ? 1 : 0;
                refused((char) sign + "?", 1, place);
            }
        }
    }

    private static void longNumbers() {
        refused("12345", 1, 0);
        refused("  00000", 1, 2);
        refused("123456789012345678901234567890", 1, 0);
        refused("1+ 12345?", 1, 3);
        refused("[ 00003]", 1, 2);
        refused("[2,00001]", 1, 3);
        refused("X 00001", 1, 2);
        refused("4294967296", 1, 0);
        refused("9".repeat(200), 1, 0);
        taken("1234", 1234, 1234, 1234);
    }

    private static void ends() {
        refused("", 1, 0);
        refused("   ", 1, 3);
        refused("1+", 1, 2);
        refused("1+ \n ", 1, 5);
        refused("(1", 1, 2);
        refused("(1 ", 1, 3);
        refused("[3 ", 1, 3);
        refused("[2,", 1, 3);
        refused("D ", 1, 2);
        refused("X  ", 1, 3);
        refused(" ".repeat(200), 1, 200);
    }

    private static void noPartitions() {
        for (String list : new String[] {"[2]", "[4]", "[0]", "[9999]", "[1,1]", "[1,2]", "[3,0]", "[0,3]", "[2,1,0]", "[2,2]", "[1,1,1,1]", "[2,0,1]",
            "[1,1,1,0,0,0,0]", "[1,1,1,1,1,1,1,1,1,1]", "[3,3,3,3,3,3,3]"}) {
            refused(list, 2, 0, 0, 0, 0);
            refused("M " + list, 2, 2, 0, 0, 0);
            refused("D" + list, 2, 1, 0, 0, 0);
        }
        taken("M[3]", 1, 1, 1);
        PrimeBlocks x = Edges.in(6, 2);
        Check.dueFault(x, "[3]", 2, 0, 0, 0, 0);
        Check.dueFault(x, "[1,1,1,1,1,1,1]", 2, 0, 0, 0, 0);
        Check.dueFault(x, "[1,1,1,1,1,1,0]", 2, 0, 0, 0, 0);
        Check.dueFault(x, "[7]", 2, 0, 0, 0, 0);
        Check.dueFault(x, "[2,4]", 2, 0, 0, 0, 0);
        Check.dueValues(x, "[1,1,1,1,1,1]", -1, 1, 1, -1, 1, -1, 1, -1, 1, -1, 1);
    }

    private static void notRegular() {
        refused("D[1,1,1]", 3, 0, 0, 0, 0);
        refused(" P [1,1,1]", 3, 1, 1, 1, 1);
        refused("2*D\n[1,1,1]", 3, 2, 2, 0, 0);
        taken("[1,1,1]", 1, -1, 1);
        taken("M[1,1,1]", 0, 0, 6);
        taken("D[2,1]", -1, 0, 2);
        PrimeBlocks x = Edges.in(3, 5);
        Check.dueValues(x, "D[1,1,1]", 1, -1, 1);
        Check.dueValues(x, "P[1,1,1]", 1, -1, 1);
        x.group(3, 3);
        Check.dueFault(x, "D[1,1,1]", 3, 0, 0, 0, 0);
    }

    private static void noSlots() {
        taken("X0", 0, 0, 0);
        taken("X5", 0, 0, 0);
        taken("X0005", 0, 0, 0);
        refused("X6", 4, 1, 0, 0, 0);
        refused("X0006", 4, 1, 0, 0, 0);
        refused("X9999", 4, 1, 0, 0, 0);
        refused(" X \n 10", 4, 5, 1, 1, 1);
    }

    private static void tooDeep() {
        taken("((((7))))", 7, 7, 7);
        taken("((((7))))*((((S))))-((1))*(((1)))", 6, -8, 6);
        taken("((((1)+(1))+(1)))*(1)", 3, 3, 3);
        refused("(((((7)))))", 5, 4, 4, 4, 4, 3, 3, 3, 2, 2, 2, 1, 1, 1, 0, 0, 0);
        refused("(((((", 5, 4, 4, 4, 4, 3, 3, 3, 2, 2, 2, 1, 1, 1, 0, 0, 0);
        refused("((((1)+(1+(", 5, 10, 10, 10, 8, 7, 7, 3, 2, 2, 2, 1, 1, 1, 0, 0, 0);
        refused("(".repeat(200), 5, 4, 4, 4, 4, 3, 3, 3, 2, 2, 2, 1, 1, 1, 0, 0, 0);
    }

    private static void above() {
        taken(GREATEST, LIMIT, LIMIT, LIMIT);
        taken(GREATEST + "-1+1", LIMIT, LIMIT, LIMIT);
        refused(GREATEST + "+1", 6, 19, 0);
        refused(GREATEST + "*2", 6, 19, 0, 0);
        // 10001 times 99990001 is one above.
        refused("(9999+2)*(9999*1000*10+1)", 6, 8, 0, 0);
        taken("(1000*1000+1)*(1000*1000-1)", LIMIT - 1, LIMIT - 1, LIMIT - 1);
        refused("9999*9999*9999*9999*9999*9999*9999*9999", 6, 14, 0, 0);
    }

    private static void below() {
        taken("0-" + GREATEST, -LIMIT, -LIMIT, -LIMIT);
        taken(GREATEST + "*(0-1)", -LIMIT, -LIMIT, -LIMIT);
        refused("0-" + GREATEST + "-1", 6, 21, 0);
        refused("0-1-" + GREATEST, 6, 3, 0);
        refused(GREATEST + "*(0-2)", 6, 19, 0, 0);
        refused("(0-9999-2)*(9999*1000*10+1)", 6, 10, 0, 0);
        taken("(0-1-1000*1000)*(1000*1000-1)", 1 - LIMIT, 1 - LIMIT, 1 - LIMIT);
    }

    private static void atSomeClass() {
        refused(GREATEST + "*M[1,1,1]", 6, 19, 0, 0);
        refused(GREATEST + "*(2-[3]+(1-S))", 6, 19, 0, 0);
        refused(GREATEST + "+P[3]", 6, 19, 0);
        refused(GREATEST + "-S", 6, 19, 0);
        refused("0-" + GREATEST + "+S", 6, 21, 0);
        taken(GREATEST + "*S", LIMIT, -LIMIT, LIMIT);
        taken(GREATEST + "-D[3]", LIMIT - 1, LIMIT, LIMIT - 1);
    }

    private static void atItsSign() {
        refused("1+2*1000*1000*1000 * 1000", 6, 19, 2, 0);
        refused("1 +  " + GREATEST, 6, 2, 0);
        refused("1-(2 -\n3*" + GREATEST + ")", 6, 23, 7, 3, 2, 2, 0);
        // What is read but not made of anything is as great as it is.
        PrimeBlocks x = three();
        Check.due("text", Check.read(x, "(333*1000+333)*(1000*1000+1)*(2*[2,1]-1)", 0), 0);
        Check.due("cut", x.cut(0, 1, 1), 0);
        Check.dueValues(x, "((X1))", -666666666666L, 0, 1333333333332L);
        Check.dueValues(x, "0*X1", 0, 0, 0);
        Check.dueFault(x, "X1 - 0", 6, 3, 0);
        Check.dueFault(x, "X1 * 1", 6, 3, 0, 0);
    }

    private static void asTheyAreMet() {
        refused(GREATEST + "+1-1", 6, 19, 0);
        taken(GREATEST + "-1+1", LIMIT, LIMIT, LIMIT);
        taken(GREATEST + "+(1-1)", LIMIT, LIMIT, LIMIT);
        refused("1-1+" + GREATEST + "+1", 6, 23, 0);
        refused("1+" + GREATEST + "-1", 6, 1, 0);
        refused(GREATEST + "*2*0", 6, 19, 0, 0);
        taken(GREATEST + "*0*2", 0, 0, 0);
    }

    private static void nothingWithin() {
        refused("((1*(2+?", 1, 7);
        refused("(12345)", 1, 1);
        refused("((((1", 1, 5);
        // And of what came before nothing is left.
        PrimeBlocks x = three();
        Check.dueFault(x, "((X9))", 4, 3, 2, 2, 2, 1, 1, 1, 0, 0, 0);
        Check.dueFault(x, "?", 1, 0);
        Check.due("fault(10)", x.fault(10), NONE);
    }

    private static void within() {
        refused("[9]", 2, 0, 0, 0, 0);
        refused("  [9]", 2, 2, 2, 2, 2);
        refused("1+[9]", 2, 2, 2, 2, 0);
        refused("1*[9]", 2, 2, 2, 0, 0);
        refused(" 1 + 2 * D [9]", 2, 11, 9, 5, 1);
        refused("1+2*P[1,1,1]", 3, 4, 4, 2, 0);
        refused("1+2*X 7", 4, 6, 4, 2, 0);
        refused("1+2*( 3-4*X7)", 4, 11, 10, 8, 6, 4, 2, 0);
        // A bracket that is closed again is begun no more.
        refused("(1)+(2)*X7", 4, 9, 8, 4, 0);
        refused("((1)+X7)", 4, 6, 5, 5, 1, 0, 0, 0);
        refused("1+(2*(3-( S*(4*(", 5, 15, 15, 13, 13, 12, 10, 10, 8, 8, 6, 5, 3, 3, 2, 2, 0);
    }

    private static void withinOfGreat() {
        refused("1+2*" + GREATEST, 6, 18, 2, 0);
        refused("1+2+" + GREATEST, 6, 3, 0);
        refused(" 1+( 2*" + GREATEST + ")", 6, 21, 5, 5, 3, 3, 1);
        refused(" 1+5*( 2+" + GREATEST + ")", 6, 8, 7, 5, 3, 1);
        refused("((((" + GREATEST + "+1))))", 6, 23, 4, 3, 3, 3, 2, 2, 2, 1, 1, 1, 0, 0, 0);
        refused("((((" + GREATEST + "*2))))", 6, 23, 4, 4, 3, 3, 3, 2, 2, 2, 1, 1, 1, 0, 0, 0);
    }

    private static void ordinaryParts() {
        PrimeBlocks x = three();
        Check.due("text", Check.read(x, "M[1,1,1]", 0), 0);
        Edges.dueRow("parts(0, k, 0)", k -> x.parts(0, k, 0), 1, 2, 1);
        Edges.dueRow("parts(0, k, 2)", k -> x.parts(0, k, 2), 1, 1, 1);
        // Two of six permutations have 1, and no other one has anything.
        Check.due("text", Check.read(x, "D[3]-M[1,1,1]*(1+S)", 1), 0);
        Edges.dueRow("value", c -> x.value(1, c), 1, 0, -11);
        Edges.dueRow("parts(1, k, 0)", k -> x.parts(1, k, 0), -3, -4, -3);
        Edges.dueRow("parts(1, k, 2)", k -> x.parts(1, k, 2), 2, 1, 2);
    }

    private static void modularParts() {
        PrimeBlocks x = three();
        // It is 0 at regular classes: no modular one is in it.
        Check.due("text", Check.read(x, "7*(1-S)", 0), 0);
        Edges.dueRow("parts(0, k, 1)", k -> x.parts(0, k, 1), 0, 0, Long.MIN_VALUE);
        Edges.dueRow("parts(0, k, 3)", k -> x.parts(0, k, 3), 1, 1, Long.MIN_VALUE);
        Edges.dueRow("parts(0, k, 0)", k -> x.parts(0, k, 0), 7, 0, -7);
        Check.due("text", Check.read(x, "3*D[3]-2*D[2,1]+1000*(1-S)", 1), 0);
        Edges.dueRow("parts(1, k, 1)", k -> x.parts(1, k, 1), 3, -2, Long.MIN_VALUE);
        // 1 at the unmoved one alone: the projective one's degree by 6.
        Check.due("text", Check.read(x, "M[2,1]-M[1,1,1]+M[3]-1+S*M[1,1,1]", 2), 0);
        Edges.dueRow("value", c -> x.value(2, c), 0, 1, 3);
        Edges.dueRow("parts(2, k, 1)", k -> x.parts(2, k, 1), 1, 1, Long.MIN_VALUE);
        Check.due("text", Check.read(x, "(1+S)*D[3]-P[3]+1-S-D[2,1]", 3), 0);
        Edges.dueRow("value", c -> x.value(3, c), 1, 2, -2);
        Edges.dueRow("parts(3, k, 1)", k -> x.parts(3, k, 1), 0, -1, Long.MIN_VALUE);
    }
}
