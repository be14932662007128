import java.util.ArrayList;
import java.util.Arrays;
import java.util.List;

/** Every table of every group against the oracle: promises 2, 7 to 19 and 25. */
public final class GroupsTest {
    private static final int NONE = PrimeBlocks.NONE;
    private static final int[] PRIMES = {2, 3, 5, 7};

    public static void main(String[] args) {
        for (int n = 1; n <= 6; n++) {
            for (int p : PRIMES) {
                Oracle oracle = new Oracle(n, p);
                Check.due("group", new PrimeBlocks().group(n, p), oracle.count);
                compare(new Tables(n, p), oracle);
                // What was made for a group must still hold when it comes again.
                compare(new Tables(n, p, true), oracle);
            }
        }
        Check.finish();
    }

    private static void compare(Tables x, Oracle o) {
        comparePartitions(x, o);
        compareClasses(x, o);
        compareTableaux(x, o);
        compareCharacters(x, o);
        compareDecompositions(x, o);
        compareBlocks(x, o);
        compareLooks(x, o);
        compareTheorems(x, o);
    }

    private static String at(Oracle o, String what, int... arguments) {
        return "group(" + o.n + ", " + o.p + ") " + what + Arrays.toString(arguments);
    }

    private static void comparePartitions(Tables x, Oracle o) {
        int regular = 0;
        for (int k = 0; k < o.count; k++) {
            int[] parts = o.partitions.get(k);
            Check.due(at(o, "partition", k, NONE), x.partition(k, NONE), parts.length);
            int coreSize = Arrays.stream(o.cores[k]).sum();
            Check.due(at(o, "core", k, NONE), x.core(k, NONE), coreSize);
            for (int i = 0; i < 8; i++) {
                Check.due(at(o, "partition", k, i), x.partition(k, i), i < parts.length ? parts[i] : 0);
                Check.due(at(o, "core", k, i), x.core(k, i), i < o.cores[k].length ? o.cores[k][i] : 0);
            }
            int[] turned = new int[parts[0]];
            for (int part : parts) {
                for (int column = 0; column < part; column++) {
                    turned[column]++;
                }
            }
            int other = o.indexOf(turned);
            Check.due(at(o, "of", k, 0), x.of(k, 0), o.isRegular(k) ? 1 : 0);
            Check.due(at(o, "of", k, 1), x.of(k, 1), o.weights[k]);
            Check.due(at(o, "of", k, 2), x.of(k, 2), o.blockOf[k]);
            Check.due(at(o, "of", k, 3), x.of(k, 3), o.tableaux[k].length);
            Check.due(at(o, "of", k, 4), x.of(k, 4), o.ranks[k]);
            Check.due(at(o, "of", k, 5), x.of(k, 5), other);
            Check.due(at(o, "of", k, 6), x.of(k, 6), other == k ? 1 : 0);
            Check.due(at(o, "of", k, 7), x.of(k, 7), o.isRegular(k) ? regular++ : NONE);
            compareHooks(x, o, k, turned);
        }
    }

    private static void compareHooks(Tables x, Oracle o, int k, int[] turned) {
        int[] parts = o.partitions.get(k);
        for (int row = -1; row < 8; row++) {
            for (int column = -1; column < 8; column++) {
                int due = NONE;
                if (row >= 0 && column >= 0 && row < parts.length && column < parts[row]) {
                    due = 0;
                    for (int other = column; other < parts[row]; other++) {
                        due++;
                    }
                    for (int other = row + 1; other < turned[column]; other++) {
                        due++;
                    }
                }
                Check.due(at(o, "hook", k, row, column), x.hook(k, row, column), due);
            }
        }
    }

    private static void compareClasses(Tables x, Oracle o) {
        for (int c = 0; c < o.count; c++) {
            Check.due(at(o, "classOf", c, 0), x.classOf(c, 0), o.sizes[c]);
            Check.due(at(o, "classOf", c, 1), x.classOf(c, 1), o.orderOf(c));
            Check.due(at(o, "classOf", c, 2), x.classOf(c, 2), o.isRegularClass(c) ? 1 : 0);
            Check.due(at(o, "classOf", c, 3), x.classOf(c, 3), Oracle.signOf(o.memberOf(c)));
            Check.due(at(o, "classOf", c, 4), x.classOf(c, 4), o.countCommuting(c));
        }
    }

    private static void compareTableaux(Tables x, Oracle o) {
        for (int k = 0; k < o.count; k++) {
            int[] parts = o.partitions.get(k);
            Check.due(at(o, "tableau", k, 77, NONE, -5), x.tableau(k, 77, NONE, -5), o.tableaux[k].length);
            for (int t = 0; t < o.tableaux[k].length; t++) {
                int cell = 0;
                for (int row = 0; row < parts.length; row++) {
                    for (int column = 0; column < parts[row]; column++) {
                        Check.due(at(o, "tableau", k, t, row, column), x.tableau(k, t, row, column), o.tableaux[k][t][cell] + 1);
                        cell++;
                    }
                    Check.due(at(o, "tableau", k, t, row, parts[row]), x.tableau(k, t, row, parts[row]), NONE);
                }
                for (int s = 0; s < o.tableaux[k].length; s++) {
                    Check.due(at(o, "gram", k, t, s), x.gram(k, t, s), o.grams[k][t][s]);
                }
            }
        }
    }

    private static void compareCharacters(Tables x, Oracle o) {
        for (int k = 0; k < o.count; k++) {
            for (int c = 0; c < o.count; c++) {
                Check.due(at(o, "character", k, c), x.character(k, c), o.characters[k][c]);
                boolean regular = o.isRegular(k) && o.isRegularClass(c);
                Check.due(at(o, "modular", k, c), x.modular(k, c), regular ? o.modulars[k][c] : NONE - 1000);
            }
        }
    }

    /** The modular characters are independent, so that what fits is the one way that there is. */
    private static void compareDecompositions(Tables x, Oracle o) {
        Check.due(at(o, "independent"), Oracle.rank(o.modulars, 10007), x.look(3));
        for (int k = 0; k < o.count; k++) {
            for (int c = 0; c < o.count; c++) {
                int sum = 0;
                int projective = 0;
                int cartan = 0;
                for (int by = 0; by < o.count; by++) {
                    if (o.isRegular(by)) {
                        Check.due(at(o, "decomposition not below 0", k, by), x.decomposition(k, by) >= 0, true);
                        sum += x.decomposition(k, by) * o.modulars[by][c];
                    } else {
                        Check.due(at(o, "decomposition", k, by), x.decomposition(k, by), NONE);
                    }
                    projective += x.decomposition(by, k) * o.characters[by][c];
                    cartan += x.decomposition(by, k) * x.decomposition(by, c);
                }
                if (o.isRegularClass(c)) {
                    Check.due(at(o, "decomposed", k, c), sum, o.characters[k][c]);
                } else if (o.isRegular(k)) {
                    Check.due(at(o, "projective is 0", k, c), projective, 0);
                }
                Check.due(at(o, "projective", k, c), x.projective(k, c), o.isRegular(k) ? projective : NONE - 1000);
                boolean both = o.isRegular(k) && o.isRegular(c);
                Check.due(at(o, "cartan", k, c), x.cartan(k, c), both ? cartan : NONE);
            }
        }
    }

    private static void compareBlocks(Tables x, Oracle o) {
        Check.due(at(o, "block", 99, NONE), x.block(99, NONE), o.least.size());
        for (int b = 0; b < o.least.size(); b++) {
            int members = 0;
            List<Integer> regular = new ArrayList<>();
            for (int k = 0; k < o.count; k++) {
                if (o.blockOf[k] == b) {
                    members++;
                    if (o.isRegular(k)) {
                        regular.add(k);
                    }
                }
            }
            int[][] table = new int[regular.size()][regular.size()];
            for (int i = 0; i < table.length; i++) {
                for (int j = 0; j < table.length; j++) {
                    table[i][j] = x.cartan(regular.get(i), regular.get(j));
                }
            }
            Check.due(at(o, "block", b, 0), x.block(b, 0), members);
            Check.due(at(o, "block", b, 1), x.block(b, 1), regular.size());
            Check.due(at(o, "block", b, 2), x.block(b, 2), o.weights[o.least.get(b)]);
            Check.due(at(o, "block", b, 3), x.block(b, 3), o.defect(b));
            Check.due(at(o, "block", b, 4), x.block(b, 4), o.least.get(b));
            Check.due(at(o, "block", b, 5), x.block(b, 5), Oracle.determinant(table));
        }
    }

    private static void compareLooks(Tables x, Oracle o) {
        int regular = 0;
        int withoutDefect = 0;
        for (int k = 0; k < o.count; k++) {
            regular += o.isRegular(k) ? 1 : 0;
        }
        for (int b = 0; b < o.least.size(); b++) {
            withoutDefect += o.defect(b) == 0 ? 1 : 0;
        }
        int[] due = {o.n, o.p, o.count, regular, o.least.size(), o.permutations.size(), 0, 0, withoutDefect};
        for (int what = 0; what < due.length; what++) {
            Check.due(at(o, "look", what), x.look(what), due[what]);
        }
    }

    /** What is known of every group, whatever way its tables are made. */
    private static void compareTheorems(Tables x, Oracle o) {
        int ofBlocks = 1;
        for (int b = 0; b < o.least.size(); b++) {
            ofBlocks *= x.block(b, 5);
        }
        int ofClasses = 1;
        int regularClasses = 0;
        for (int c = 0; c < o.count; c++) {
            if (o.isRegularClass(c)) {
                regularClasses++;
                for (int rest = o.countCommuting(c); rest % o.p == 0; rest /= o.p) {
                    ofClasses *= o.p;
                }
            }
        }
        Check.due(at(o, "determinants of all blocks are the powers of p in what goes with regular classes"), ofBlocks, ofClasses);
        Check.due(at(o, "as many regular partitions as regular classes"), x.look(3), regularClasses);
        for (int k = 0; k < o.count; k++) {
            for (int other = 0; other < o.count; other++) {
                if (!o.isRegular(other)) {
                    continue;
                }
                boolean apart = o.blockOf[k] != o.blockOf[other];
                Check.due(at(o, "decomposition apart", k, other), apart && x.decomposition(k, other) != 0, false);
                // A module has its own modular one once, and others of earlier partitions alone.
                int most = k == other ? 1 : 0;
                Check.due(at(o, "decomposition by itself, or a later one", k, other), other >= k && x.decomposition(k, other) != most, false);
                if (o.isRegular(k)) {
                    Check.due(at(o, "modular with projective", k, other), productOf(x, o, k, other), k == other ? o.permutations.size() : 0);
                }
            }
        }
    }

    private static long productOf(Tables x, Oracle o, int modular, int projective) {
        long sum = 0;
        for (int c = 0; c < o.count; c++) {
            if (o.isRegularClass(c)) {
                sum += (long) o.sizes[c] * x.modular(modular, c) * x.projective(projective, c);
            }
        }
        return sum;
    }
}
