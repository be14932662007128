import java.util.Arrays;

/** Blocks modulo a prime, of all permutations of n things; the project's document says what each call answers. */
public final class PrimeBlocks {
    public static final int NONE = -1;

    private static final int NO_CLASS = NONE - 1;
    private static final int NO_CHARACTER = NONE - 1000;
    private static final int NO_SLOT = -2;
    private static final int MOST_THINGS = 6;
    private static final int MOST_CLASSES = 11;
    private static final int GREATEST_PRIME = 7;
    private static final int SLOTS = 6;
    private static final int FIRST_WITHIN = 10;

    // What belongs to an n, or to an n and a prime, is made once and kept, so that changing groups to and fro is cheap.
    private final Things[] thingsByNumber = new Things[MOST_THINGS + 1];
    private final Split[] splitByGroup = new Split[(MOST_THINGS + 1) * (GREATEST_PRIME + 1)];
    private final long[][] slots = new long[SLOTS][MOST_CLASSES];
    private final long[] spare = new long[MOST_CLASSES];
    private final Tape tape = new Tape();
    private final Reader reader;
    private Things things;
    private Split split;

    public PrimeBlocks() {
        things = new Things(3);
        split = new Split(things, 2);
        thingsByNumber[3] = things;
        splitByGroup[groupIndex(3, 2)] = split;
        reader = new Reader(tape, slots, things, split);
    }

    public int group(int n, int p) {
        if (n < 1 || n > MOST_THINGS || (p != 2 && p != 3 && p != 5 && p != 7)) {
            return NONE;
        }
        if (thingsByNumber[n] == null) {
            thingsByNumber[n] = new Things(n);
        }
        things = thingsByNumber[n];
        int at = groupIndex(n, p);
        if (splitByGroup[at] == null) {
            splitByGroup[at] = new Split(things, p);
        }
        split = splitByGroup[at];
        reader.turnTo(things, split);
        for (int slot = 0; slot < SLOTS; slot++) {
            Arrays.fill(slots[slot], 0L);
        }
        return things.count;
    }

    public int feed(int a, int b, int c, int d, int e) {
        if (!tape.hasRoom(20)) {
            return NONE;
        }
        tape.put(a);
        tape.put(b);
        tape.put(c);
        tape.put(d);
        tape.put(e);
        return tape.length;
    }

    public boolean end(int n) {
        if (n < 0 || n > tape.length) {
            return false;
        }
        tape.length = n;
        return true;
    }

    public int text(int slot) {
        int answer = NO_SLOT;
        if (!isSlot(slot)) {
            reader.fault.clear();
        } else if (reader.read()) {
            System.arraycopy(reader.sums[0], 0, slots[slot], 0, MOST_CLASSES);
            answer = 0;
        } else {
            answer = NONE;
        }
        tape.length = 0;
        return answer;
    }

    public int fault(int what) {
        Fault latest = reader.fault;
        switch (what) {
            case 0:
                return latest.number;
            case 1:
                return latest.place;
            case 2:
                return latest.depth;
            default:
                if (what < FIRST_WITHIN || what - FIRST_WITHIN >= latest.depth) {
                    return NONE;
                }
                return latest.within[what - FIRST_WITHIN];
        }
    }

    public int partition(int k, int i) {
        if (!isPartition(k) || i < NONE) {
            return NONE;
        }
        Shape shape = things.shapes[k];
        return i == NONE ? shape.rows : partAt(shape.parts, i);
    }

    public int of(int k, int what) {
        if (!isPartition(k)) {
            return NONE;
        }
        switch (what) {
            case 0:
                return bit(split.isRegular(k));
            case 1:
                return split.blocks.weights[k];
            case 2:
                return split.blocks.blockOf[k];
            case 3:
                return things.shapes[k].degree;
            case 4:
                return split.ranks[k];
            case 5:
                return things.turned[k];
            case 6:
                return bit(things.turned[k] == k);
            case 7:
                return split.regularNumber[k];
            default:
                return NONE;
        }
    }

    public int core(int k, int i) {
        if (!isPartition(k) || i < NONE) {
            return NONE;
        }
        Blocks blocks = split.blocks;
        return i == NONE ? things.n - split.prime * blocks.weights[k] : partAt(blocks.cores[k], i);
    }

    public int hook(int k, int row, int column) {
        if (!isPartition(k) || !things.shapes[k].hasCell(row, column)) {
            return NONE;
        }
        return things.shapes[k].hookAt(row, column);
    }

    public int classOf(int k, int what) {
        if (!isPartition(k)) {
            return NO_CLASS;
        }
        switch (what) {
            case 0:
                return things.sizes[k];
            case 1:
                return things.orders[k];
            case 2:
                return bit(split.regularClass[k]);
            case 3:
                return things.signs[k];
            case 4:
                return things.centralizers[k];
            default:
                return NO_CLASS;
        }
    }

    public int character(int k, int at) {
        return isPartition(k) && isPartition(at) ? things.characters[k][at] : NO_CHARACTER;
    }

    public int modular(int k, int at) {
        if (!isRegularPartition(k) || !isPartition(at) || !split.regularClass[at]) {
            return NO_CHARACTER;
        }
        return split.modulars[k][at];
    }

    public int projective(int k, int at) {
        return isRegularPartition(k) && isPartition(at) ? split.projectives[k][at] : NO_CHARACTER;
    }

    public int decomposition(int k, int by) {
        return isPartition(k) && isRegularPartition(by) ? split.decompositions[k][by] : NONE;
    }

    public int cartan(int k, int other) {
        return isRegularPartition(k) && isRegularPartition(other) ? split.cartans[k][other] : NONE;
    }

    public int tableau(int k, int t, int row, int column) {
        if (!isPartition(k)) {
            return NONE;
        }
        Shape shape = things.shapes[k];
        if (row == NONE) {
            return shape.degree;
        }
        if (t < 0 || t >= shape.degree || !shape.hasCell(row, column)) {
            return NONE;
        }
        return shape.tableaux[t][shape.firstCell[row] + column];
    }

    public int gram(int k, int t, int other) {
        if (!isPartition(k)) {
            return NO_CHARACTER;
        }
        Shape shape = things.shapes[k];
        if (t < 0 || t >= shape.degree || other < 0 || other >= shape.degree) {
            return NO_CHARACTER;
        }
        return shape.forms[t][other];
    }

    public int block(int b, int what) {
        Blocks blocks = split.blocks;
        if (what == NONE) {
            return blocks.count;
        }
        if (b < 0 || b >= blocks.count) {
            return NONE;
        }
        switch (what) {
            case 0:
                return blocks.members[b];
            case 1:
                return blocks.regularMembers[b];
            case 2:
                return blocks.weights[blocks.least[b]];
            case 3:
                return blocks.defects[b];
            case 4:
                return blocks.least[b];
            case 5:
                return split.determinants[b];
            default:
                return NONE;
        }
    }

    public long value(int slot, int at) {
        return isSlot(slot) && isPartition(at) ? slots[slot][at] : Long.MIN_VALUE;
    }

    public long parts(int slot, int k, int what) {
        if (!isSlot(slot) || !isPartition(k) || what < 0 || what > 3) {
            return Long.MIN_VALUE;
        }
        boolean modular = what == 1 || what == 3;
        if (modular && !split.isRegular(k)) {
            return Long.MIN_VALUE;
        }
        long above = timesFactorial(slots[slot], k, modular);
        long common = greatestDivisor(Math.abs(above), things.factorial);
        if (common == 0) {
            return Long.MIN_VALUE;
        }
        return what < 2 ? above / common : things.factorial / common;
    }

    public long inner(int slot, int other) {
        if (!isSlot(slot) || !isSlot(other)) {
            return NONE;
        }
        long sum = 0;
        for (int c = 0; c < things.count; c++) {
            sum += things.sizes[c] * slots[slot][c] * slots[other][c];
        }
        return sum;
    }

    public int kind(int slot, int what) {
        if (!isSlot(slot)) {
            return NONE;
        }
        long[] function = slots[slot];
        switch (what) {
            case 0:
                return bit(isZeroOffRegular(function));
            case 1:
                return bit(isWhole(function, false, false));
            case 2:
                return bit(isWhole(function, false, true));
            case 3:
                return bit(isWhole(function, true, false));
            case 4:
                return bit(isWhole(function, true, true));
            default:
                return NONE;
        }
    }

    public int cut(int slot, int b, int into) {
        if (!isSlot(slot) || !isSlot(into) || b < 0 || b >= split.blocks.count) {
            return NONE;
        }
        Arrays.fill(spare, 0L);
        for (int k = 0; k < things.count; k++) {
            if (split.blocks.blockOf[k] != b) {
                continue;
            }
            long above = timesFactorial(slots[slot], k, false);
            if (!isWholeTimes(above)) {
                return NONE;
            }
            addTimes(above / things.factorial, things.characters[k]);
        }
        System.arraycopy(spare, 0, slots[into], 0, MOST_CLASSES);
        return 0;
    }

    public int look(int what) {
        switch (what) {
            case 0:
                return things.n;
            case 1:
                return split.prime;
            case 2:
                return things.count;
            case 3:
                return split.regularCount;
            case 4:
                return split.blocks.count;
            case 5:
                return things.factorial;
            case 6:
                return tape.length;
            case 7:
                return slotsInUse();
            case 8:
                return split.blocks.withoutDefect();
            default:
                return NONE;
        }
    }

    private boolean isPartition(int k) {
        return k >= 0 && k < things.count;
    }

    private boolean isRegularPartition(int k) {
        return isPartition(k) && split.isRegular(k);
    }

    private int slotsInUse() {
        int bits = 0;
        for (int slot = 0; slot < SLOTS; slot++) {
            for (int c = 0; c < things.count; c++) {
                if (slots[slot][c] != 0) {
                    bits |= 1 << slot;
                }
            }
        }
        return bits;
    }

    private boolean isZeroOffRegular(long[] function) {
        for (int c = 0; c < things.count; c++) {
            if (!split.regularClass[c] && function[c] != 0) {
                return false;
            }
        }
        return true;
    }

    private boolean isWhole(long[] function, boolean modular, boolean notBelowZero) {
        for (int k = 0; k < things.count; k++) {
            if (modular && !split.isRegular(k)) {
                continue;
            }
            long above = timesFactorial(function, k, modular);
            if (!isWholeTimes(above) || (notBelowZero && above < 0)) {
                return false;
            }
        }
        return true;
    }

    /** How often the ordinary or modular character of k is in a function, times n! (so that it is whole). */
    private long timesFactorial(long[] function, int k, boolean modular) {
        // A projective character is 0 off the regular classes: summing over all classes leaves these out by itself.
        int[] row = modular ? split.projectives[k] : things.characters[k];
        long sum = 0;
        for (int c = 0; c < things.count; c++) {
            sum += function[c] * things.sizes[c] * row[c];
        }
        return sum;
    }

    private boolean isWholeTimes(long timesFactorial) {
        return things.factorial > 0 && timesFactorial % things.factorial == 0;
    }

    private void addTimes(long times, int[] row) {
        for (int c = 0; c < things.count; c++) {
            spare[c] += times * row[c];
        }
    }

    private static boolean isSlot(int slot) {
        return slot >= 0 && slot < SLOTS;
    }

    private static int groupIndex(int n, int p) {
        return n * (GREATEST_PRIME + 1) + p;
    }

    private static int bit(boolean is) {
        return is ? 1 : 0;
    }

    private static int partAt(int[] parts, int i) {
        return i < parts.length ? parts[i] : 0;
    }

    private static int factorialOf(int n) {
        int product = 1;
        for (int i = 2; i <= n; i++) {
            product *= i;
        }
        return product;
    }

    private static long greatestDivisor(long a, long b) {
        long greater = a;
        long lesser = b;
        // Euclid's steps at least halve every second rest, so a long has no more than 128 of them.
        for (int step = 0; step < 200 && lesser != 0; step++) {
            long rest = greater % lesser;
            greater = lesser;
            lesser = rest;
        }
        return greater;
    }

    /** A diagram with all its standard tableaux, their polytabloids and the forms of these. */
    private static final class Shape {
        final int n;
        final int rows;
        final int[] parts;
        final int[] columns;
        final int[] firstCell;
        final int degree;
        /** Standard tableaux, each cell by cell, row by row. */
        final int[][] tableaux;
        final int[][] forms;

        /** How many ways there are to change the numbers of the columns, and for each way the row of each cell's number. */
        private final int ways;
        private final int[] rowsByWay;
        private final int[] signByWay;
        /** For each tableau and way the code of the tabloid. */
        private final int[][] codes;
        private final int[] weights;
        /** The work of the two searches below: which are made, and what is taken. */
        private int made;
        private final int[] chosen;
        private final int[] taken;

        Shape(int[] someParts, int length, int n) {
            this.n = n;
            rows = length;
            parts = Arrays.copyOf(someParts, length);
            columns = new int[parts[0]];
            firstCell = new int[rows];
            layOut();
            degree = countTableaux();
            chosen = new int[n];
            taken = new int[n + 1];
            tableaux = new int[degree][n];
            fillTableaux(0, 0);
            ways = countWays();
            rowsByWay = new int[ways * n];
            signByWay = new int[ways];
            made = 0;
            Arrays.fill(taken, 0);
            fillWays(0, 0, 1);
            weights = new int[n + 1];
            weighNumbers();
            codes = new int[degree][ways];
            forms = new int[degree][degree];
        }

        boolean hasCell(int row, int column) {
            return row >= 0 && row < rows && column >= 0 && column < parts[row];
        }

        int hookAt(int row, int column) {
            return parts[row] - column + columns[column] - row - 1;
        }

        private void layOut() {
            int cell = 0;
            for (int row = 0; row < rows; row++) {
                firstCell[row] = cell;
                cell += parts[row];
                for (int column = 0; column < parts[row]; column++) {
                    columns[column]++;
                }
            }
        }

        private int countTableaux() {
            int below = 1;
            for (int row = 0; row < rows; row++) {
                for (int column = 0; column < parts[row]; column++) {
                    below *= hookAt(row, column);
                }
            }
            return below > 0 ? factorialOf(n) / below : 0;
        }

        private int countWays() {
            int product = 1;
            for (int column = 0; column < columns.length; column++) {
                product *= factorialOf(columns[column]);
            }
            return product;
        }

        /** Fills the cells one after another, the lesser number first, which numbers the tableaux as they are due. */
        private void fillTableaux(int row, int column) {
            if (row >= rows) {
                if (made < degree) {
                    System.arraycopy(chosen, 0, tableaux[made], 0, n);
                    made++;
                }
                return;
            }
            int cell = firstCell[row] + column;
            int least = column > 0 ? chosen[cell - 1] : 0;
            if (row > 0) {
                least = Math.max(least, chosen[firstCell[row - 1] + column]);
            }
            boolean last = column + 1 == parts[row];
            for (int number = least + 1; number <= n; number++) {
                if (taken[number] == 0) {
                    taken[number] = 1;
                    chosen[cell] = number;
                    fillTableaux(last ? row + 1 : row, last ? 0 : column + 1);
                    taken[number] = 0;
                }
            }
        }

        /** Gives each cell's number another row of its column; taken has a bit for each row that is taken there. */
        private void fillWays(int row, int column, int sign) {
            if (row >= rows) {
                if (made < ways) {
                    System.arraycopy(chosen, 0, rowsByWay, made * n, n);
                    signByWay[made] = sign;
                    made++;
                }
                return;
            }
            boolean last = column + 1 == parts[row];
            for (int target = 0; target < columns[column]; target++) {
                if ((taken[column] >> target & 1) == 0) {
                    int passed = Integer.bitCount(taken[column] >> target);
                    taken[column] |= 1 << target;
                    chosen[firstCell[row] + column] = target;
                    fillWays(last ? row + 1 : row, last ? 0 : column + 1, passed % 2 == 0 ? sign : -sign);
                    taken[column] &= ~(1 << target);
                }
            }
        }

        /** A tabloid's code has a digit for each number, its row; the last number's row is left by the others. */
        private void weighNumbers() {
            int weight = 1;
            for (int number = 1; number < n; number++) {
                weights[number] = weight;
                weight *= rows;
            }
        }

        /** How many codes of tabloids there can be. */
        int codeCount() {
            int count = 1;
            for (int number = 1; number < n; number++) {
                count *= rows;
            }
            return count;
        }

        private int codeOf(int[] tableau, int way, int[] moved) {
            int code = 0;
            for (int cell = 0; cell < n; cell++) {
                code += rowsByWay[way * n + cell] * weights[moved[tableau[cell]]];
            }
            return code;
        }

        /** Makes the forms of the standard polytabloids; byCode is as long as codeCount, and 0 before and after. */
        void makeForms(int[] unmoved, int[] byCode) {
            for (int t = 0; t < degree; t++) {
                for (int way = 0; way < ways; way++) {
                    codes[t][way] = codeOf(tableaux[t], way, unmoved);
                }
            }
            makeMovedForms(unmoved, byCode, forms);
        }

        /** Forms of the standard polytabloids, moved by a permutation of the numbers, with those that are not moved. */
        void makeMovedForms(int[] moved, int[] byCode, int[][] into) {
            for (int s = 0; s < degree; s++) {
                for (int way = 0; way < ways; way++) {
                    byCode[codeOf(tableaux[s], way, moved)] = signByWay[way];
                }
                for (int t = 0; t < degree; t++) {
                    into[s][t] = formWith(codes[t], byCode);
                }
                for (int way = 0; way < ways; way++) {
                    byCode[codeOf(tableaux[s], way, moved)] = 0;
                }
            }
        }

        private int formWith(int[] tabloids, int[] byCode) {
            int sum = 0;
            for (int way = 0; way < ways; way++) {
                sum += signByWay[way] * byCode[tabloids[way]];
            }
            return sum;
        }
    }

    /** All that n alone tells: partitions, classes, ordinary characters. */
    private static final class Things {
        private static final int[] PARTITIONS = {1, 1, 2, 3, 5, 7, 11};

        final int n;
        final int count;
        final int factorial;
        final Shape[] shapes;
        /** For each partition the number of the one turned round at its diagonal. */
        final int[] turned;
        final int[] sizes;
        final int[] orders;
        final int[] signs;
        final int[] centralizers;
        /** For each class and exponent the class of the power. */
        final int[][] powers;
        /** For each class a permutation of it: where each number goes. */
        final int[][] members;
        /** For each partition and class how many tabloids stay as they are. */
        final int[][] marks;
        final int[][] characters;
        /** Room for forms: a number for each code of a tabloid, all 0 between uses. */
        final int[] byCode;

        Things(int n) {
            this.n = n;
            count = PARTITIONS[n];
            shapes = new Shape[count];
            makeShapes();
            factorial = factorialOf(n);
            turned = new int[count];
            sizes = new int[count];
            orders = new int[count];
            signs = new int[count];
            centralizers = new int[count];
            powers = new int[count][MOST_THINGS + 1];
            members = new int[count][n + 1];
            marks = new int[count][count];
            characters = new int[count][count];
            for (int k = 0; k < count; k++) {
                describeClass(k);
                turned[k] = numberOf(shapes[k].columns, shapes[k].columns.length);
            }
            makePowers();
            makeMarks();
            makeCharacters();
            byCode = new int[countCodes()];
            for (int k = 0; k < count; k++) {
                shapes[k].makeForms(members[count - 1], byCode);
            }
        }

        /** The partition that has just these parts; NONE if there is none such. */
        int numberOf(int[] parts, int length) {
            for (int k = 0; k < count; k++) {
                int[] mine = shapes[k].parts;
                int same = 0;
                while (same < mine.length && same < length && mine[same] == parts[same]) {
                    same++;
                }
                if (same == mine.length && same == length) {
                    return k;
                }
            }
            return NONE;
        }

        private void makeShapes() {
            int[] parts = new int[n];
            parts[0] = n;
            int length = 1;
            for (int k = 0; k < count; k++) {
                shapes[k] = new Shape(parts, length, n);
                length = stepOn(parts, length);
            }
        }

        /** Turns a partition into the next one and answers how many parts that has; 1 .. 1 stays. */
        private static int stepOn(int[] parts, int length) {
            int last = length - 1;
            while (last >= 0 && parts[last] == 1) {
                last--;
            }
            if (last < 0) {
                return length;
            }
            int rest = length - last;
            int part = parts[last] - 1;
            parts[last] = part;
            int next = last + 1;
            while (rest > 0 && next < parts.length) {
                parts[next] = Math.min(part, rest);
                rest -= parts[next];
                next++;
            }
            return next;
        }

        private void describeClass(int k) {
            int[] parts = shapes[k].parts;
            int first = 1;
            int alike = 0;
            int fixing = 1;
            orders[k] = 1;
            signs[k] = 1;
            for (int i = 0; i < parts.length; i++) {
                int part = parts[i];
                alike = i > 0 && parts[i - 1] == part ? alike + 1 : 1;
                fixing *= part * alike;
                orders[k] = leastMultiple(orders[k], part);
                signs[k] = part % 2 == 0 ? -signs[k] : signs[k];
                for (int j = 0; j < part; j++) {
                    members[k][first + j] = first + (j + 1) % part;
                }
                first += part;
            }
            centralizers[k] = fixing;
            sizes[k] = fixing > 0 ? factorial / fixing : 0;
        }

        private static int leastMultiple(int a, int b) {
            int multiple = a;
            for (int i = 1; i < b && multiple % b != 0; i++) {
                multiple += a;
            }
            return multiple;
        }

        private void makePowers() {
            int[] parts = new int[n];
            for (int k = 0; k < count; k++) {
                for (int exponent = 1; exponent <= MOST_THINGS; exponent++) {
                    powers[k][exponent] = numberOf(parts, raise(shapes[k].parts, exponent, parts));
                }
            }
        }

        /** The parts of a power's cycles, the longest first; answers how many. */
        private int raise(int[] parts, int exponent, int[] into) {
            int length = 0;
            for (int cycle = n; cycle > 0; cycle--) {
                for (int i = 0; i < parts.length; i++) {
                    int pieces = (int) greatestDivisor(parts[i], exponent);
                    if (pieces * cycle != parts[i]) {
                        continue;
                    }
                    for (int piece = 0; piece < pieces && length < into.length; piece++) {
                        into[length] = cycle;
                        length++;
                    }
                }
            }
            return length;
        }

        private void makeMarks() {
            for (int k = 0; k < count; k++) {
                int[] room = shapes[k].parts.clone();
                for (int c = 0; c < count; c++) {
                    marks[k][c] = placings(shapes[c].parts, 0, room);
                }
            }
        }

        /** In how many ways the cycles from one on fill what room the rows still have: each cycle lies in one row. */
        private static int placings(int[] cycles, int from, int[] room) {
            if (from >= cycles.length) {
                return 1;
            }
            int ways = 0;
            int cycle = cycles[from];
            for (int row = 0; row < room.length; row++) {
                if (room[row] >= cycle) {
                    room[row] -= cycle;
                    ways += placings(cycles, from + 1, room);
                    room[row] += cycle;
                }
            }
            return ways;
        }

        /** The module of all tabloids has its partition's character once, and beside it earlier partitions' ones alone. */
        private void makeCharacters() {
            for (int k = 0; k < count; k++) {
                System.arraycopy(marks[k], 0, characters[k], 0, count);
                for (int earlier = 0; earlier < k; earlier++) {
                    int times = timesIn(marks[k], characters[earlier]);
                    for (int c = 0; c < count; c++) {
                        characters[k][c] -= times * characters[earlier][c];
                    }
                }
            }
        }

        private int timesIn(int[] whole, int[] character) {
            int sum = 0;
            for (int c = 0; c < count; c++) {
                sum += sizes[c] * whole[c] * character[c];
            }
            return factorial > 0 ? sum / factorial : 0;
        }

        private int countCodes() {
            int most = 1;
            for (int k = 0; k < count; k++) {
                most = Math.max(most, shapes[k].codeCount());
            }
            return most;
        }
    }

    /** Rows of numbers modulo a prime. */
    private static final class Residues {
        final int prime;
        final int[][] rows;

        Residues(int prime, int height, int width) {
            this.prime = prime;
            rows = new int[height][width];
        }

        void set(int row, int column, int number) {
            rows[row][column] = Math.floorMod(number, prime);
        }

        /** Makes 1 above and below 0 in as many of the first columns as can be; answers in how many. */
        int reduce(int height, int pivots, int width) {
            int rank = 0;
            for (int column = 0; column < pivots && rank < height; column++) {
                int found = rank;
                while (found < height && rows[found][column] == 0) {
                    found++;
                }
                if (found == height) {
                    continue;
                }
                int[] row = rows[found];
                rows[found] = rows[rank];
                rows[rank] = row;
                scale(row, inverse(row[column]), width);
                for (int other = 0; other < height; other++) {
                    if (other != rank && rows[other][column] != 0) {
                        takeAway(rows[other], rows[other][column], row, width);
                    }
                }
                rank++;
            }
            return rank;
        }

        private void scale(int[] row, int by, int width) {
            for (int column = 0; column < width; column++) {
                row[column] = row[column] * by % prime;
            }
        }

        private void takeAway(int[] row, int times, int[] other, int width) {
            int by = prime - times;
            for (int column = 0; column < width; column++) {
                row[column] = (row[column] + by * other[column]) % prime;
            }
        }

        /** By Fermat: a number to the power of the prime less 2. */
        private int inverse(int number) {
            int product = 1;
            int square = number;
            for (int exponent = prime - 2; exponent > 0; exponent >>= 1) {
                if ((exponent & 1) == 1) {
                    product = product * square % prime;
                }
                square = square * square % prime;
            }
            return product;
        }
    }

    /** Cores, weights and blocks of all partitions of n for a prime. */
    private static final class Blocks {
        final int[] weights;
        /** For each partition the parts of its core. */
        final int[][] cores;
        final int[] blockOf;
        int count;
        final int[] least;
        final int[] members;
        final int[] regularMembers;
        final int[] defects;

        Blocks(Things things, int prime, int[] regularNumber) {
            int partitions = things.count;
            weights = new int[partitions];
            cores = new int[partitions][things.n];
            blockOf = new int[partitions];
            least = new int[partitions];
            members = new int[partitions];
            regularMembers = new int[partitions];
            defects = new int[partitions];
            boolean[] beads = new boolean[2 * MOST_THINGS];
            for (int k = 0; k < partitions; k++) {
                weights[k] = slide(things.shapes[k].parts, prime, beads);
                readCore(beads, things.shapes[k].rows, cores[k]);
                join(k, prime, regularNumber[k] != NONE);
            }
        }

        int withoutDefect() {
            int sum = 0;
            for (int b = 0; b < count; b++) {
                sum += bit(defects[b] == 0);
            }
            return sum;
        }

        /** A part is a bead, and a hook of p cells that goes is a bead that slides down p free places. */
        private static int slide(int[] parts, int prime, boolean[] beads) {
            for (int place = 0; place < beads.length; place++) {
                beads[place] = false;
            }
            for (int i = 0; i < parts.length; i++) {
                beads[parts[i] + parts.length - 1 - i] = true;
            }
            int slides = 0;
            for (int place = prime; place < beads.length; place++) {
                int bead = place;
                while (bead >= prime && beads[bead] && !beads[bead - prime]) {
                    beads[bead] = false;
                    beads[bead - prime] = true;
                    bead -= prime;
                    slides++;
                }
            }
            return slides;
        }

        private static void readCore(boolean[] beads, int beadCount, int[] core) {
            int below = beadCount;
            int row = 0;
            for (int place = beads.length - 1; place >= 0 && row < core.length; place--) {
                if (beads[place]) {
                    below--;
                    core[row] = place - below;
                    row++;
                }
            }
        }

        private void join(int k, int prime, boolean regular) {
            int b = 0;
            while (b < count && !isSameCore(cores[least[b]], cores[k])) {
                b++;
            }
            if (b == count) {
                least[b] = k;
                defects[b] = powerInFactorial(prime, prime * weights[k]);
                count++;
            }
            blockOf[k] = b;
            members[b]++;
            regularMembers[b] += bit(regular);
        }

        private static boolean isSameCore(int[] one, int[] other) {
            for (int i = 0; i < one.length && i < other.length; i++) {
                if (one[i] != other[i]) {
                    return false;
                }
            }
            return true;
        }

        private static int powerInFactorial(int prime, int number) {
            int power = 0;
            for (int multiple = prime; multiple <= number; multiple += prime) {
                int rest = multiple;
                while (rest > 0 && rest % prime == 0) {
                    rest /= prime;
                    power++;
                }
            }
            return power;
        }
    }

    /** All that n and the prime tell: regular ones, modular and projective characters, decompositions, blocks. */
    private static final class Split {
        /** Far above each decomposition, and no divisor of the modular table's determinant, which has factors to n alone. */
        private static final int SOLVING_PRIME = 10007;
        /** For each d to 6 the sum of all primitive d-th roots of 1, and how many they are. */
        private static final int[] ROOT_SUM = {0, 1, -1, -1, 0, -1, 1};
        private static final int[] ROOT_COUNT = {1, 1, 1, 2, 2, 4, 2};

        final Things things;
        final int prime;
        /** For each partition which regular one it is, or NONE. */
        final int[] regularNumber;
        int regularCount;
        final boolean[] regularClass;
        final int[] ranks;
        /** These have a row or column for each partition; it is 0 where that is not regular. */
        final int[][] modulars;
        final int[][] decompositions;
        final int[][] cartans;
        final int[][] projectives;
        final Blocks blocks;
        final int[] determinants;

        Split(Things things, int prime) {
            this.things = things;
            this.prime = prime;
            int count = things.count;
            regularNumber = new int[count];
            regularClass = new boolean[count];
            markRegular();
            ranks = new int[count];
            modulars = new int[count][count];
            makeModulars();
            decompositions = new int[count][count];
            makeDecompositions();
            cartans = new int[count][count];
            projectives = new int[count][count];
            makeCartans();
            makeProjectives();
            blocks = new Blocks(things, prime, regularNumber);
            determinants = new int[blocks.count];
            makeDeterminants();
        }

        boolean isRegular(int k) {
            return regularNumber[k] != NONE;
        }

        private void markRegular() {
            for (int k = 0; k < things.count; k++) {
                int[] parts = things.shapes[k].parts;
                boolean regular = true;
                boolean undivided = true;
                int alike = 0;
                for (int i = 0; i < parts.length; i++) {
                    alike = i > 0 && parts[i - 1] == parts[i] ? alike + 1 : 1;
                    regular &= alike < prime;
                    undivided &= parts[i] % prime != 0;
                }
                regularClass[k] = undivided;
                regularNumber[k] = regular ? regularCount : NONE;
                regularCount += bit(regular);
            }
        }

        private void makeModulars() {
            int most = 1;
            for (int k = 0; k < things.count; k++) {
                most = Math.max(most, things.shapes[k].degree);
            }
            Residues work = new Residues(prime, most, most);
            int[][] moved = new int[most][most];
            int[] fixed = new int[things.count];
            for (int k = 0; k < things.count; k++) {
                Shape shape = things.shapes[k];
                ranks[k] = rankOfDifference(shape, shape.forms, null, work);
                if (!isRegular(k)) {
                    continue;
                }
                if (ranks[k] < shape.degree) {
                    makeFixed(k, moved, work, fixed);
                }
                for (int c = 0; c < things.count; c++) {
                    if (regularClass[c]) {
                        // With its full rank nothing of the module goes, and its character stays as it is.
                        modulars[k][c] = ranks[k] < shape.degree ? sumOfRoots(c, fixed) : things.characters[k][c];
                    }
                }
            }
        }

        /** The rank of one table, less another one if there is one, modulo the prime. */
        private static int rankOfDifference(Shape shape, int[][] table, int[][] less, Residues work) {
            for (int s = 0; s < shape.degree; s++) {
                for (int t = 0; t < shape.degree; t++) {
                    work.set(s, t, less == null ? table[s][t] : table[s][t] - less[s][t]);
                }
            }
            return work.reduce(shape.degree, shape.degree, shape.degree);
        }

        /**
         * How many dimensions of the modular module a permutation of each regular class leaves as they are. What g - 1
         * makes of the module is told by its forms with all of it, since what has no form with all of it has gone.
         */
        private void makeFixed(int k, int[][] moved, Residues work, int[] fixed) {
            Shape shape = things.shapes[k];
            for (int c = 0; c < things.count; c++) {
                if (regularClass[c]) {
                    shape.makeMovedForms(things.members[c], things.byCode, moved);
                    fixed[c] = ranks[k] - rankOfDifference(shape, moved, shape.forms, work);
                }
            }
        }

        private int sumOfRoots(int c, int[] fixed) {
            int order = things.orders[c];
            int sum = 0;
            for (int d = 1; d <= order && d < ROOT_COUNT.length; d++) {
                if (order % d == 0) {
                    sum += dimensionsOfOrder(c, d, fixed) / ROOT_COUNT[d] * ROOT_SUM[d];
                }
            }
            return sum;
        }

        /** On how many dimensions a value of the permutation is a primitive d-th root of 1: its powers tell (Moebius). */
        private int dimensionsOfOrder(int c, int d, int[] fixed) {
            int sum = 0;
            for (int e = 1; e <= d; e++) {
                if (d % e == 0) {
                    sum += ROOT_SUM[d / e] * fixed[things.powers[c][e]];
                }
            }
            return sum;
        }

        /** Solves for all partitions at once: a row for each regular class, a column for each unknown and each partition. */
        private void makeDecompositions() {
            int count = things.count;
            Residues work = new Residues(SOLVING_PRIME, count, regularCount + count);
            int height = 0;
            for (int c = 0; c < count; c++) {
                if (!regularClass[c]) {
                    continue;
                }
                for (int k = 0; k < count; k++) {
                    work.set(height, regularCount + k, things.characters[k][c]);
                    if (isRegular(k)) {
                        work.set(height, regularNumber[k], modulars[k][c]);
                    }
                }
                height++;
            }
            work.reduce(height, regularCount, regularCount + count);
            for (int by = 0; by < count; by++) {
                if (isRegular(by)) {
                    for (int k = 0; k < count; k++) {
                        decompositions[k][by] = work.rows[regularNumber[by]][regularCount + k];
                    }
                }
            }
        }

        private void makeCartans() {
            for (int k = 0; k < things.count; k++) {
                for (int i = 0; i < things.count; i++) {
                    for (int j = 0; j < things.count; j++) {
                        cartans[i][j] += decompositions[k][i] * decompositions[k][j];
                    }
                }
            }
        }

        private void makeProjectives() {
            for (int k = 0; k < things.count; k++) {
                for (int by = 0; by < things.count; by++) {
                    for (int c = 0; c < things.count; c++) {
                        projectives[by][c] += decompositions[k][by] * things.characters[k][c];
                    }
                }
            }
        }

        private void makeDeterminants() {
            long[][] table = new long[regularCount][regularCount];
            int[] chosen = new int[regularCount];
            for (int b = 0; b < blocks.count; b++) {
                int size = 0;
                for (int k = 0; k < things.count; k++) {
                    if (isRegular(k) && blocks.blockOf[k] == b) {
                        chosen[size] = k;
                        size++;
                    }
                }
                for (int i = 0; i < size; i++) {
                    for (int j = 0; j < size; j++) {
                        table[i][j] = cartans[chosen[i]][chosen[j]];
                    }
                }
                determinants[b] = (int) determinant(table, size);
            }
        }

        /** Without fractions (Bareiss); a Cartan table is positive definite, so no corner of it has determinant 0. */
        private static long determinant(long[][] table, int size) {
            long before = 1;
            for (int step = 0; step + 1 < size; step++) {
                for (int i = step + 1; i < size; i++) {
                    for (int j = step + 1; j < size; j++) {
                        long crossed = table[i][j] * table[step][step] - table[i][step] * table[step][j];
                        table[i][j] = before != 0 ? crossed / before : 0;
                    }
                }
                before = table[step][step];
            }
            return size > 0 ? table[size - 1][size - 1] : 1;
        }
    }

    /** The bytes from which a text is read. */
    private static final class Tape {
        static final int MOST = 200;

        final int[] bytes = new int[MOST];
        int length;

        boolean hasRoom(int more) {
            return length + more <= MOST;
        }

        /** Puts four bytes of a number, the highest first, where there is room for them. */
        void put(int number) {
            for (int shift = 24; shift >= 0 && length < MOST; shift -= 8) {
                bytes[length] = number >> shift & 255;
                length++;
            }
        }
    }

    /** Why a text can't be taken. */
    private static final class Fault {
        int number;
        int place = NONE;
        final int[] within = new int[3 * Reader.LEVELS];
        int depth;

        void clear() {
            number = 0;
            place = NONE;
            depth = 0;
        }

        void tell(int aNumber, int aPlace) {
            number = aNumber;
            place = aPlace;
            depth = 0;
        }

        void addWithin(int begin) {
            if (depth < within.length) {
                within[depth] = begin;
                depth++;
            }
        }
    }

    /** Reads a text and makes its function; a level is how many "(" are open. */
    private static final class Reader {
        static final int LEVELS = 5;
        private static final int END = -1;
        private static final int NO_NUMBER = -1;
        private static final int MOST_DIGITS = 4;
        private static final long LIMIT = 1000000000000L;

        private static final int BAD_SIGN = 1;
        private static final int NO_PARTITION = 2;
        private static final int NOT_REGULAR = 3;
        private static final int NO_SUCH_SLOT = 4;
        private static final int TOO_DEEP = 5;
        private static final int TOO_GREAT = 6;

        /** What is the innermost that has begun where a fault is met. */
        private static final int IN_FACTOR = 0;
        private static final int IN_TERM = 1;
        private static final int IN_SUM = 2;

        final Fault fault = new Fault();
        final long[][] sums = new long[LEVELS][MOST_CLASSES];
        private final long[][] terms = new long[LEVELS][MOST_CLASSES];
        private final long[][] factors = new long[LEVELS][MOST_CLASSES];
        private final int[] sumBegins = new int[LEVELS];
        private final int[] termBegins = new int[LEVELS];
        private final int[] factorBegins = new int[LEVELS];
        private final int[] listed = new int[MOST_THINGS];
        private int listLength;
        private int listBegin;
        private final Tape tape;
        private final long[][] slots;
        private Things things;
        private Split split;
        private int at;

        Reader(Tape tape, long[][] slots, Things things, Split split) {
            this.tape = tape;
            this.slots = slots;
            this.things = things;
            this.split = split;
        }

        void turnTo(Things otherThings, Split otherSplit) {
            things = otherThings;
            split = otherSplit;
        }

        /** Whether the tape is a text; then its function is sums[0]. */
        boolean read() {
            fault.clear();
            at = 0;
            Arrays.fill(sums[0], 0L);
            return readSum(0) && (next() == END || refuse(at));
        }

        /** The next sign that is no blank, where the reader stands then. */
        private int next() {
            while (at < tape.length && (tape.bytes[at] == ' ' || tape.bytes[at] == '\n')) {
                at++;
            }
            return at < tape.length ? tape.bytes[at] : END;
        }

        private boolean refuse(int place) {
            fault.tell(BAD_SIGN, place);
            return false;
        }

        private boolean fail(int number, int place, int level, int innermost) {
            fault.tell(number, place);
            for (int l = level; l >= 0; l--) {
                if (l < level || innermost == IN_FACTOR) {
                    fault.addWithin(factorBegins[l]);
                }
                if (l < level || innermost != IN_SUM) {
                    fault.addWithin(termBegins[l]);
                }
                fault.addWithin(sumBegins[l]);
            }
            return false;
        }

        private boolean readSum(int level) {
            next();
            sumBegins[level] = at;
            if (!readTerm(level)) {
                return false;
            }
            System.arraycopy(terms[level], 0, sums[level], 0, things.count);
            // Each turn takes a sign of the tape at least.
            for (int turn = 0; turn < Tape.MOST; turn++) {
                int sign = next();
                if (sign != '+' && sign != '-') {
                    return true;
                }
                int place = at;
                at++;
                if (!readTerm(level)) {
                    return false;
                }
                if (!add(terms[level], sign == '-', sums[level])) {
                    return fail(TOO_GREAT, place, level, IN_SUM);
                }
            }
            return true;
        }

        private boolean readTerm(int level) {
            next();
            termBegins[level] = at;
            if (!readFactor(level)) {
                return false;
            }
            System.arraycopy(factors[level], 0, terms[level], 0, things.count);
            for (int turn = 0; turn < Tape.MOST; turn++) {
                if (next() != '*') {
                    return true;
                }
                int place = at;
                at++;
                if (!readFactor(level)) {
                    return false;
                }
                if (!multiply(factors[level], terms[level])) {
                    return fail(TOO_GREAT, place, level, IN_TERM);
                }
            }
            return true;
        }

        private boolean readFactor(int level) {
            int sign = next();
            factorBegins[level] = at;
            if (isDigit(sign)) {
                return readConstant(level);
            }
            switch (sign) {
                case '[':
                    return readList() && takeCharacter(level, sign);
                case 'D':
                case 'P':
                case 'M':
                    at++;
                    return readList() && takeCharacter(level, sign);
                case 'S':
                    at++;
                    copy(things.signs, factors[level]);
                    return true;
                case 'X':
                    at++;
                    return readSlot(level);
                case '(':
                    return readInBrackets(level);
                default:
                    return refuse(at);
            }
        }

        private boolean readConstant(int level) {
            int number = readNumber();
            if (number == NO_NUMBER) {
                return false;
            }
            Arrays.fill(factors[level], number);
            return true;
        }

        private boolean readSlot(int level) {
            next();
            int place = at;
            int slot = readNumber();
            if (slot == NO_NUMBER) {
                return false;
            }
            if (!isSlot(slot)) {
                return fail(NO_SUCH_SLOT, place, level, IN_FACTOR);
            }
            System.arraycopy(slots[slot], 0, factors[level], 0, things.count);
            return true;
        }

        private boolean readInBrackets(int level) {
            if (level + 1 >= LEVELS) {
                return fail(TOO_DEEP, at, level, IN_FACTOR);
            }
            at++;
            if (!readSum(level + 1)) {
                return false;
            }
            if (next() != ')') {
                return refuse(at);
            }
            at++;
            System.arraycopy(sums[level + 1], 0, factors[level], 0, things.count);
            return true;
        }

        /** Reads "[", numbers and "]"; all numbers are counted, but no more are kept than a partition can have parts. */
        private boolean readList() {
            if (next() != '[') {
                return refuse(at);
            }
            listBegin = at;
            listLength = 0;
            // Each turn takes a sign of the tape at least.
            for (int turn = 0; turn < Tape.MOST; turn++) {
                at++;
                int number = readNumber();
                if (number == NO_NUMBER) {
                    return false;
                }
                if (listLength < listed.length) {
                    listed[listLength] = number;
                }
                listLength++;
                int sign = next();
                if (sign == ']') {
                    at++;
                    return true;
                }
                if (sign != ',') {
                    return refuse(at);
                }
            }
            return refuse(at);
        }

        private boolean takeCharacter(int level, int letter) {
            int k = listLength <= listed.length ? things.numberOf(listed, listLength) : NONE;
            if (k == NONE) {
                return fail(NO_PARTITION, listBegin, level, IN_FACTOR);
            }
            if ((letter == 'D' || letter == 'P') && !split.isRegular(k)) {
                return fail(NOT_REGULAR, factorBegins[level], level, IN_FACTOR);
            }
            copy(rowFor(letter, k), factors[level]);
            return true;
        }

        private int[] rowFor(int letter, int k) {
            switch (letter) {
                case 'D':
                    return split.modulars[k];
                case 'P':
                    return split.projectives[k];
                case 'M':
                    return things.marks[k];
                default:
                    return things.characters[k];
            }
        }

        private int readNumber() {
            int digit = next();
            int begin = at;
            int number = 0;
            while (at < tape.length && isDigit(digit)) {
                number = number * 10 + digit - '0';
                at++;
                digit = at < tape.length ? tape.bytes[at] : END;
            }
            if (at == begin || at - begin > MOST_DIGITS) {
                fault.tell(BAD_SIGN, begin);
                return NO_NUMBER;
            }
            return number;
        }

        private static boolean isDigit(int sign) {
            return sign >= '0' && sign <= '9';
        }

        private void copy(int[] row, long[] into) {
            for (int c = 0; c < things.count; c++) {
                into[c] = row[c];
            }
        }

        /** False, if a sum is too great. */
        private boolean add(long[] term, boolean minus, long[] into) {
            for (int c = 0; c < things.count; c++) {
                long sum = minus ? into[c] - term[c] : into[c] + term[c];
                if (sum > LIMIT || sum < -LIMIT) {
                    return false;
                }
                into[c] = sum;
            }
            return true;
        }

        /** False, if a product is too great; a function that was cut may be so great that the product would wrap. */
        private boolean multiply(long[] factor, long[] into) {
            for (int c = 0; c < things.count; c++) {
                if (factor[c] != 0 && Math.abs(into[c]) > LIMIT / Math.abs(factor[c])) {
                    return false;
                }
                into[c] *= factor[c];
            }
            return true;
        }
    }
}
