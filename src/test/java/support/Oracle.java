import java.math.BigInteger;
import java.util.ArrayList;
import java.util.Arrays;
import java.util.List;
import java.util.Map;
import java.util.TreeMap;

/** What the document says of one group, made by its own words and by other ways than the class takes. */
final class Oracle {
    final int n;
    final int p;
    final List<int[]> partitions = new ArrayList<>();
    final int count;
    final List<int[]> permutations = new ArrayList<>();
    final int[] sizes;
    final int[][] characters;
    final int[][] marks;
    final int[][][] tableaux;
    final int[][][] grams;
    final int[] ranks;
    final int[][] modulars;
    final int[][] cores;
    final int[] weights;
    final int[] blockOf;
    final List<Integer> least = new ArrayList<>();

    private static final int[][] CYCLOTOMIC = {{}, {-1, 1}, {1, 1}, {1, 1, 1}, {1, 0, 1}, {1, 1, 1, 1, 1}, {1, -1, 1}};
    private static final int[] ROOT_SUM = {0, 1, -1, -1, 0, -1, 1};

    Oracle(int n, int p) {
        this.n = n;
        this.p = p;
        addPartitions(new int[0], n, n);
        count = partitions.size();
        addPermutations(new int[n], 0, 0);
        sizes = new int[count];
        for (int[] permutation : permutations) {
            sizes[classOf(permutation)]++;
        }
        characters = new int[count][count];
        marks = new int[count][count];
        for (int k = 0; k < count; k++) {
            for (int c = 0; c < count; c++) {
                characters[k][c] = murnaghan(partitions.get(k), partitions.get(c), 0);
                marks[k][c] = countFixedTabloids(partitions.get(k), memberOf(c), new int[n], 0);
            }
        }
        tableaux = new int[count][][];
        grams = new int[count][][];
        ranks = new int[count];
        modulars = new int[count][];
        for (int k = 0; k < count; k++) {
            makeModule(k);
        }
        cores = new int[count][];
        weights = new int[count];
        blockOf = new int[count];
        for (int k = 0; k < count; k++) {
            makeCore(k);
        }
    }

    private void addPartitions(int[] begun, int rest, int most) {
        if (rest == 0) {
            partitions.add(begun);
        }
        for (int part = Math.min(rest, most); part >= 1; part--) {
            int[] longer = Arrays.copyOf(begun, begun.length + 1);
            longer[begun.length] = part;
            addPartitions(longer, rest - part, part);
        }
    }

    private void addPermutations(int[] begun, int at, int used) {
        if (at == n) {
            permutations.add(begun.clone());
            return;
        }
        for (int to = 0; to < n; to++) {
            if ((used >> to & 1) == 0) {
                begun[at] = to;
                addPermutations(begun, at + 1, used | 1 << to);
            }
        }
    }

    int indexOf(int[] partition) {
        for (int k = 0; k < count; k++) {
            if (Arrays.equals(partitions.get(k), partition)) {
                return k;
            }
        }
        return -1;
    }

    int classOf(int[] permutation) {
        boolean[] seen = new boolean[n];
        List<Integer> lengths = new ArrayList<>();
        for (int i = 0; i < n; i++) {
            int length = 0;
            for (int j = i; !seen[j]; j = permutation[j]) {
                seen[j] = true;
                length++;
            }
            if (length > 0) {
                lengths.add(-length);
            }
        }
        lengths.sort(null);
        return indexOf(lengths.stream().mapToInt(x -> -x).toArray());
    }

    int[] memberOf(int c) {
        // The last one that is met, so that it is another one than the class would take first.
        int[] found = null;
        for (int[] permutation : permutations) {
            if (classOf(permutation) == c) {
                found = permutation;
            }
        }
        return found;
    }

    static int signOf(int[] permutation) {
        int sign = 1;
        for (int i = 0; i < permutation.length; i++) {
            for (int j = i + 1; j < permutation.length; j++) {
                sign = permutation[i] > permutation[j] ? -sign : sign;
            }
        }
        return sign;
    }

    int orderOf(int c) {
        int[] g = memberOf(c);
        int[] power = g.clone();
        int order = 1;
        while (!isIdentity(power)) {
            power = times(g, power);
            order++;
        }
        return order;
    }

    private static boolean isIdentity(int[] g) {
        for (int i = 0; i < g.length; i++) {
            if (g[i] != i) {
                return false;
            }
        }
        return true;
    }

    private static int[] times(int[] g, int[] h) {
        int[] product = new int[g.length];
        for (int i = 0; i < g.length; i++) {
            product[i] = g[h[i]];
        }
        return product;
    }

    int countCommuting(int c) {
        int[] g = memberOf(c);
        int commuting = 0;
        for (int[] h : permutations) {
            commuting += Arrays.equals(times(g, h), times(h, g)) ? 1 : 0;
        }
        return commuting;
    }

    boolean isRegularClass(int c) {
        return Arrays.stream(partitions.get(c)).noneMatch(part -> part % p == 0);
    }

    boolean isRegular(int k) {
        int[] parts = partitions.get(k);
        return Arrays.stream(parts).noneMatch(part -> Arrays.stream(parts).filter(x -> x == part).count() >= p);
    }

    /** All diagrams that are left when a rim of some cells goes, with how many rows less one it had. */
    private static List<int[]> rims(int[] parts, int cells, List<Integer> legs) {
        List<int[]> left = new ArrayList<>();
        for (int top = 0; top < parts.length; top++) {
            for (int bottom = top; bottom < parts.length; bottom++) {
                int[] rest = parts.clone();
                int gone = 0;
                for (int row = top; row < bottom; row++) {
                    rest[row] = parts[row + 1] - 1;
                    gone += parts[row] - rest[row];
                }
                rest[bottom] = parts[bottom] - (cells - gone);
                int below = bottom + 1 < parts.length ? parts[bottom + 1] : 0;
                if (gone < cells && rest[bottom] >= below && rest[bottom] >= 0) {
                    left.add(Arrays.stream(rest).filter(part -> part > 0).toArray());
                    legs.add(bottom - top);
                }
            }
        }
        return left;
    }

    private static int murnaghan(int[] shape, int[] cycles, int from) {
        if (from == cycles.length) {
            return 1;
        }
        List<Integer> legs = new ArrayList<>();
        List<int[]> left = rims(shape, cycles[from], legs);
        int sum = 0;
        for (int i = 0; i < left.size(); i++) {
            int rest = murnaghan(left.get(i), cycles, from + 1);
            sum += legs.get(i) % 2 == 0 ? rest : -rest;
        }
        return sum;
    }

    private int countFixedTabloids(int[] shape, int[] g, int[] rows, int at) {
        if (at == n) {
            for (int i = 0; i < n; i++) {
                if (rows[i] != rows[g[i]]) {
                    return 0;
                }
            }
            for (int row = 0; row < shape.length; row++) {
                int wanted = row;
                if (Arrays.stream(rows).filter(x -> x == wanted).count() != shape[row]) {
                    return 0;
                }
            }
            return 1;
        }
        int sum = 0;
        for (int row = 0; row < shape.length; row++) {
            rows[at] = row;
            sum += countFixedTabloids(shape, g, rows, at + 1);
        }
        return sum;
    }

    /** The numbers (from 0 on) of a tableau by rows; its column permutations are those that leave each number's column. */
    private Map<String, Integer> polytabloid(int[] shape, int[] word) {
        int[] rowOf = new int[n];
        int[] columnOf = new int[n];
        int cell = 0;
        for (int row = 0; row < shape.length; row++) {
            for (int column = 0; column < shape[row]; column++) {
                rowOf[word[cell]] = row;
                columnOf[word[cell]] = column;
                cell++;
            }
        }
        Map<String, Integer> sum = new TreeMap<>();
        for (int[] s : permutations) {
            boolean stays = true;
            int[] rows = new int[n];
            for (int number = 0; number < n; number++) {
                stays &= columnOf[number] == columnOf[s[number]];
                rows[s[number]] = rowOf[number];
            }
            if (stays) {
                sum.merge(Arrays.toString(rows), signOf(s), Integer::sum);
            }
        }
        return sum;
    }

    private static int form(Map<String, Integer> one, Map<String, Integer> other) {
        int sum = 0;
        for (Map.Entry<String, Integer> entry : one.entrySet()) {
            sum += entry.getValue() * other.getOrDefault(entry.getKey(), 0);
        }
        return sum;
    }

    private boolean isStandard(int[] shape, int[] word) {
        int first = 0;
        for (int row = 0; row < shape.length; row++) {
            for (int column = 0; column < shape[row]; column++) {
                int cell = first + column;
                if (column > 0 && word[cell - 1] > word[cell]) {
                    return false;
                }
                if (row > 0 && word[cell - shape[row - 1]] > word[cell]) {
                    return false;
                }
            }
            first += shape[row];
        }
        return true;
    }

    private void makeModule(int k) {
        int[] shape = partitions.get(k);
        List<int[]> words = new ArrayList<>();
        for (int[] word : permutations) {
            if (isStandard(shape, word)) {
                words.add(word);
            }
        }
        tableaux[k] = words.toArray(new int[0][]);
        int degree = words.size();
        List<Map<String, Integer>> sums = new ArrayList<>();
        for (int[] word : words) {
            sums.add(polytabloid(shape, word));
        }
        int[][] gram = new int[degree][degree];
        for (int s = 0; s < degree; s++) {
            for (int t = 0; t < degree; t++) {
                gram[s][t] = form(sums.get(s), sums.get(t));
            }
        }
        grams[k] = gram;
        ranks[k] = rank(gram, p);
        modulars[k] = new int[count];
        if (isRegular(k)) {
            int[][] radical = kernel(gram, p);
            for (int c = 0; c < count; c++) {
                if (isRegularClass(c)) {
                    modulars[k][c] = modularAt(k, c, sums, radical);
                }
            }
        }
    }

    /** By the dimensions on which the d-th cyclotomic polynomial of the permutation is 0. */
    private int modularAt(int k, int c, List<Map<String, Integer>> sums, int[][] radical) {
        int[][] action = action(k, memberOf(c), sums);
        int order = orderOf(c);
        int sum = 0;
        int all = 0;
        for (int d = 1; d <= order; d++) {
            if (order % d != 0) {
                continue;
            }
            int[][] stacked = stack(polynomial(CYCLOTOMIC[d], action), radical);
            int dimensions = ranks[k] - (rank(stacked, p) - radical.length);
            int roots = CYCLOTOMIC[d].length - 1;
            if (dimensions % roots != 0) {
                throw new IllegalStateException("primitive roots are not alike");
            }
            all += dimensions;
            sum += dimensions / roots * ROOT_SUM[d];
        }
        if (all != ranks[k]) {
            throw new IllegalStateException("a permutation of a regular class can be split");
        }
        return sum;
    }

    /** Rows: the moved standard polytabloids by the standard ones, modulo p. */
    private int[][] action(int k, int[] g, List<Map<String, Integer>> sums) {
        int degree = sums.size();
        Map<String, Integer> numbers = new TreeMap<>();
        for (Map<String, Integer> sum : sums) {
            for (String tabloid : sum.keySet()) {
                numbers.putIfAbsent(tabloid, numbers.size());
            }
        }
        List<Map<String, Integer>> movedSums = new ArrayList<>();
        for (int[] word : tableaux[k]) {
            int[] moved = new int[n];
            for (int cell = 0; cell < n; cell++) {
                moved[cell] = g[word[cell]];
            }
            Map<String, Integer> movedSum = polytabloid(partitions.get(k), moved);
            movedSums.add(movedSum);
            for (String tabloid : movedSum.keySet()) {
                numbers.putIfAbsent(tabloid, numbers.size());
            }
        }
        int[][] equations = new int[numbers.size()][2 * degree];
        for (int s = 0; s < degree; s++) {
            for (Map.Entry<String, Integer> entry : sums.get(s).entrySet()) {
                equations[numbers.get(entry.getKey())][s] = entry.getValue();
            }
            for (Map.Entry<String, Integer> entry : movedSums.get(s).entrySet()) {
                equations[numbers.get(entry.getKey())][degree + s] = entry.getValue();
            }
        }
        int[][] reduced = reduced(equations, p);
        int[][] action = new int[degree][degree];
        for (int s = 0; s < degree; s++) {
            for (int t = 0; t < degree; t++) {
                action[s][t] = reduced[t][degree + s];
            }
        }
        return action;
    }

    private int[][] polynomial(int[] coefficients, int[][] matrix) {
        int size = matrix.length;
        int[][] result = new int[size][size];
        for (int power = coefficients.length - 1; power >= 0; power--) {
            int[][] next = new int[size][size];
            for (int i = 0; i < size; i++) {
                for (int j = 0; j < size; j++) {
                    int sum = i == j ? coefficients[power] : 0;
                    for (int l = 0; l < size; l++) {
                        sum += result[i][l] * matrix[l][j];
                    }
                    next[i][j] = Math.floorMod(sum, p);
                }
            }
            result = next;
        }
        return result;
    }

    private static int[][] stack(int[][] one, int[][] other) {
        int[][] all = Arrays.copyOf(one, one.length + other.length);
        System.arraycopy(other, 0, all, one.length, other.length);
        return all;
    }

    private static int[][] reduced(int[][] matrix, int prime) {
        int[][] m = new int[matrix.length][];
        for (int i = 0; i < m.length; i++) {
            m[i] = Arrays.stream(matrix[i]).map(x -> Math.floorMod(x, prime)).toArray();
        }
        int width = m.length == 0 ? 0 : m[0].length;
        int rank = 0;
        for (int column = 0; column < width && rank < m.length; column++) {
            int row = rank;
            while (row < m.length && m[row][column] == 0) {
                row++;
            }
            if (row == m.length) {
                continue;
            }
            int[] pivot = m[row];
            m[row] = m[rank];
            m[rank] = pivot;
            int inverse = BigInteger.valueOf(pivot[column]).modInverse(BigInteger.valueOf(prime)).intValue();
            for (int j = 0; j < width; j++) {
                pivot[j] = pivot[j] * inverse % prime;
            }
            for (int i = 0; i < m.length; i++) {
                int factor = m[i][column];
                for (int j = 0; i != rank && factor != 0 && j < width; j++) {
                    m[i][j] = Math.floorMod(m[i][j] - factor * pivot[j], prime);
                }
            }
            rank++;
        }
        return m;
    }

    static int rank(int[][] matrix, int prime) {
        int rank = 0;
        for (int[] row : reduced(matrix, prime)) {
            rank += Arrays.stream(row).anyMatch(x -> x != 0) ? 1 : 0;
        }
        return rank;
    }

    /** Rows that a symmetric matrix takes to 0. */
    private static int[][] kernel(int[][] matrix, int prime) {
        int size = matrix.length;
        int[][] beside = new int[size][2 * size];
        for (int i = 0; i < size; i++) {
            System.arraycopy(matrix[i], 0, beside[i], 0, size);
            beside[i][size + i] = 1;
        }
        List<int[]> rows = new ArrayList<>();
        for (int[] row : reduced(beside, prime)) {
            if (Arrays.stream(row, 0, size).allMatch(x -> x == 0)) {
                rows.add(Arrays.copyOfRange(row, size, 2 * size));
            }
        }
        return rows.toArray(new int[0][]);
    }

    private void makeCore(int k) {
        int[] shape = partitions.get(k);
        List<int[]> left = rims(shape, p, new ArrayList<>());
        while (!left.isEmpty()) {
            shape = left.get(left.size() - 1);
            weights[k]++;
            left = rims(shape, p, new ArrayList<>());
        }
        cores[k] = shape;
        for (int b = 0; b < least.size(); b++) {
            if (Arrays.equals(cores[least.get(b)], shape)) {
                blockOf[k] = b;
                return;
            }
        }
        blockOf[k] = least.size();
        least.add(k);
    }

    int defect(int b) {
        BigInteger factorial = BigInteger.ONE;
        for (int i = 2; i <= p * weights[least.get(b)]; i++) {
            factorial = factorial.multiply(BigInteger.valueOf(i));
        }
        int power = 0;
        while (factorial.mod(BigInteger.valueOf(p)).signum() == 0) {
            factorial = factorial.divide(BigInteger.valueOf(p));
            power++;
        }
        return power;
    }

    static long determinant(int[][] matrix) {
        if (matrix.length == 0) {
            return 1;
        }
        long sum = 0;
        for (int column = 0; column < matrix.length; column++) {
            if (matrix[0][column] == 0) {
                continue;
            }
            int[][] minor = new int[matrix.length - 1][matrix.length - 1];
            for (int i = 1; i < matrix.length; i++) {
                for (int j = 0; j < matrix.length; j++) {
                    if (j != column) {
                        minor[i - 1][j < column ? j : j - 1] = matrix[i][j];
                    }
                }
            }
            sum += (column % 2 == 0 ? 1 : -1) * matrix[0][column] * determinant(minor);
        }
        return sum;
    }
}
