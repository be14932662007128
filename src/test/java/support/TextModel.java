import java.math.BigInteger;
import java.util.ArrayList;
import java.util.List;

/** Reads a text sign by sign over a pile of open sums, with numbers of any size: another way than the class's. */
final class TextModel {
    static final BigInteger LIMIT = BigInteger.valueOf(1000000000000L);

    int fault;
    int place = -1;
    final List<Integer> within = new ArrayList<>();
    BigInteger[] function;

    private static final class Open {
        int sumBegin = -1;
        BigInteger[] sum;
        int sumSign = -1;
        boolean minus;
        int termBegin = -1;
        BigInteger[] term;
        int termSign = -1;
        int factorBegin = -1;
    }

    private static final class Met extends Exception {
        private static final long serialVersionUID = 1L;
    }

    private final String text;
    private final Tables tables;
    private final int classes;
    private final BigInteger[][] slots;
    private final List<Open> pile = new ArrayList<>();
    private int at;

    TextModel(String text, Tables tables, BigInteger[][] slots) {
        this.text = text;
        this.tables = tables;
        this.classes = tables.look(2);
        this.slots = slots;
        pile.add(new Open());
        try {
            run();
        } catch (Met met) {
            function = null;
        }
    }

    private Open top() {
        return pile.get(pile.size() - 1);
    }

    private int peek() {
        while (at < text.length() && (text.charAt(at) == 32 || text.charAt(at) == 10)) {
            at++;
        }
        return at < text.length() ? text.charAt(at) : -1;
    }

    private void run() throws Met {
        boolean wanted = true;
        while (true) {
            int sign = peek();
            if (wanted) {
                begin();
                if (sign == '(') {
                    if (pile.size() == 5) {
                        tell(5, at, 0);
                    }
                    at++;
                    pile.add(new Open());
                    continue;
                }
                multiplyBy(simpleFactor(sign));
                wanted = false;
            } else if (sign == '*') {
                top().termSign = at++;
                wanted = true;
            } else {
                endTerm();
                if (sign == '+' || sign == '-') {
                    top().sumSign = at++;
                    top().minus = sign == '-';
                    wanted = true;
                } else if (sign == ')' && pile.size() > 1) {
                    at++;
                    multiplyBy(pileOff());
                } else if (sign == -1 && pile.size() == 1) {
                    function = top().sum;
                    return;
                } else {
                    tell(1, at, 0);
                }
            }
        }
    }

    private BigInteger[] pileOff() {
        return pile.remove(pile.size() - 1).sum;
    }

    private void begin() {
        Open open = top();
        if (open.sumBegin < 0) {
            open.sumBegin = at;
        }
        if (open.term == null) {
            open.termBegin = at;
        }
        open.factorBegin = at;
    }

    private void tell(int what, int where, int leftOut) throws Met {
        fault = what;
        place = where;
        if (what != 1) {
            for (int i = pile.size() - 1; i >= 0; i--) {
                within.add(pile.get(i).factorBegin);
                within.add(pile.get(i).termBegin);
                within.add(pile.get(i).sumBegin);
            }
            within.subList(0, leftOut).clear();
        }
        throw new Met();
    }

    private static boolean isTooGreat(BigInteger[] function) {
        for (BigInteger number : function) {
            if (number.abs().compareTo(LIMIT) > 0) {
                return true;
            }
        }
        return false;
    }

    private void multiplyBy(BigInteger[] factor) throws Met {
        Open open = top();
        if (open.term == null) {
            open.term = factor.clone();
            return;
        }
        for (int c = 0; c < classes; c++) {
            open.term[c] = open.term[c].multiply(factor[c]);
        }
        if (isTooGreat(open.term)) {
            tell(6, open.termSign, 1);
        }
    }

    private void endTerm() throws Met {
        Open open = top();
        BigInteger[] term = open.term;
        open.term = null;
        if (open.sum == null) {
            open.sum = term;
            return;
        }
        for (int c = 0; c < classes; c++) {
            open.sum[c] = open.minus ? open.sum[c].subtract(term[c]) : open.sum[c].add(term[c]);
        }
        if (isTooGreat(open.sum)) {
            tell(6, open.sumSign, 2);
        }
    }

    private BigInteger[] simpleFactor(int sign) throws Met {
        BigInteger[] result = new BigInteger[classes];
        if (sign >= '0' && sign <= '9') {
            BigInteger number = BigInteger.valueOf(number());
            for (int c = 0; c < classes; c++) {
                result[c] = number;
            }
            return result;
        }
        switch (sign) {
            case 'S':
                at++;
                for (int c = 0; c < classes; c++) {
                    result[c] = BigInteger.valueOf(tables.classOf(c, 3));
                }
                return result;
            case 'X':
                at++;
                peek();
                int begin = at;
                int slot = number();
                if (slot > 5) {
                    tell(4, begin, 0);
                }
                return slots[slot].clone();
            case 'D':
            case 'P':
            case 'M':
            case '[':
                return character(sign);
            default:
                tell(1, at, 0);
                return null;
        }
    }

    private BigInteger[] character(int letter) throws Met {
        int letterAt = at;
        at += letter == '[' ? 0 : 1;
        if (peek() != '[') {
            tell(1, at, 0);
        }
        int bracket = at;
        List<Integer> parts = new ArrayList<>();
        do {
            at++;
            parts.add(number());
        } while (peek() == ',');
        if (peek() != ']') {
            tell(1, at, 0);
        }
        at++;
        int k = 0;
        while (k < classes && !isPartition(k, parts)) {
            k++;
        }
        if (k == classes) {
            tell(2, bracket, 0);
        }
        if ((letter == 'D' || letter == 'P') && tables.of(k, 0) == 0) {
            tell(3, letterAt, 0);
        }
        BigInteger[] result = new BigInteger[classes];
        for (int c = 0; c < classes; c++) {
            result[c] = BigInteger.valueOf(characterAt(letter, k, c));
        }
        return result;
    }

    private boolean isPartition(int k, List<Integer> parts) {
        boolean same = tables.partition(k, -1) == parts.size();
        for (int i = 0; i < parts.size(); i++) {
            same &= tables.partition(k, i) == parts.get(i);
        }
        return same;
    }

    private int characterAt(int letter, int k, int c) {
        switch (letter) {
            case 'D':
                return tables.classOf(c, 2) == 1 ? tables.modular(k, c) : 0;
            case 'P':
                return tables.projective(k, c);
            case 'M':
                return oracleMarks(k, c);
            default:
                return tables.character(k, c);
        }
    }

    /** By coefficients: how often each power of the rows' signs is in the product of the cycles' power sums. */
    private int oracleMarks(int k, int c) {
        int rows = tables.partition(k, -1);
        int[] room = new int[rows];
        for (int i = 0; i < rows; i++) {
            room[i] = tables.partition(k, i);
        }
        int cycles = tables.partition(c, -1);
        int found = 0;
        int all = (int) Math.round(Math.pow(rows, cycles));
        for (int code = 0; code < all; code++) {
            int[] filled = new int[rows];
            int rest = code;
            for (int i = 0; i < cycles; i++) {
                filled[rest % rows] += tables.partition(c, i);
                rest /= rows;
            }
            found += java.util.Arrays.equals(filled, room) ? 1 : 0;
        }
        return found;
    }

    private int number() throws Met {
        peek();
        int begin = at;
        while (at < text.length() && text.charAt(at) >= '0' && text.charAt(at) <= '9') {
            at++;
        }
        if (at == begin || at > begin + 4) {
            tell(1, begin, 0);
        }
        return Integer.parseInt(text.substring(begin, at));
    }
}
