import java.math.BigInteger;
import java.util.ArrayList;
import java.util.List;

/** The document word by word, with nothing kept but the state itself: what the program is held against. */
final class PlainModel {
    private static final int NONE = -1;

    private final List<List<Integer>> sentences = new ArrayList<>();
    private List<Integer> open = new ArrayList<>();
    private int order = 3;
    private final int[] eighths = {0, 6, 6, 6};
    private BigInteger[] kept = {BigInteger.ONE, BigInteger.ONE};

    boolean order(int n) {
        if (n < 1 || n > 3) {
            return false;
        }
        order = n;
        return true;
    }

    boolean discount(int level, int of) {
        if (level < 1 || level > 3 || of < 1 || of > 8) {
            return false;
        }
        eighths[level] = of;
        return true;
    }

    boolean word(int w) {
        if (w < 0 || w > 4 || open.size() == 8) {
            return false;
        }
        open.add(w);
        return true;
    }

    int learn() {
        if (sentences.size() == 8) {
            return NONE;
        }
        sentences.add(open);
        open = new ArrayList<>();
        return sentences.size();
    }

    int erase() {
        int had = open.size();
        open = new ArrayList<>();
        return had;
    }

    int forget() {
        if (sentences.isEmpty()) {
            return NONE;
        }
        open = sentences.remove(sentences.size() - 1);
        return open.size();
    }

    int count(int k, int a, int b, int c) {
        int[] row = lastOf(k, a, b, c);
        return row == null ? 0 : countOf(row);
    }

    int total(int k, int a, int b) {
        int sum = 0;
        for (int w = 0; w <= 5; w++) {
            sum += count(k, a, b, w);
        }
        return sum;
    }

    int kinds(int k, int a, int b) {
        int different = 0;
        for (int w = 0; w <= 5; w++) {
            different += count(k, a, b, w) > 0 ? 1 : 0;
        }
        return different;
    }

    int grams(int k) {
        return k < 1 || k > 3 ? NONE : allGrams(k).size();
    }

    int gram(int k, int i) {
        if (k < 1 || k > 3 || i < 0 || i >= allGrams(k).size()) {
            return NONE;
        }
        return allGrams(k).get(i);
    }

    long top(int a, int b, int w) {
        return isAsked(a, b, w) ? chance(a, b, w)[0].longValueExact() : NONE;
    }

    long bottom(int a, int b, int w) {
        return isAsked(a, b, w) ? chance(a, b, w)[1].longValueExact() : NONE;
    }

    int likeliest(int a, int b) {
        if (!isSymbol(a) || !isSymbol(b)) {
            return NONE;
        }
        int best = 0;
        for (int w = 1; w <= 5; w++) {
            if (compare(chance(a, b, w), chance(a, b, best)) > 0) {
                best = w;
            }
        }
        return best;
    }

    int score(int part, int i) {
        if (i < 0) {
            return 0;
        }
        BigInteger number = scoreOfOpen()[part == 0 ? 0 : 1];
        return i > 1000 ? 0 : number.shiftRight(32 * i).intValue();
    }

    void keep() {
        kept = scoreOfOpen();
    }

    int against() {
        return compare(scoreOfOpen(), kept);
    }

    private static boolean isSymbol(int s) {
        return s >= 0 && s <= 6;
    }

    private static boolean isAsked(int a, int b, int w) {
        return isSymbol(a) && isSymbol(b) && w >= 0 && w <= 5;
    }

    /** The row of the last k of them; null if there is no such row. */
    private static int[] lastOf(int k, int a, int b, int c) {
        if (k < 1 || k > 3) {
            return null;
        }
        int[] all = {a, b, c};
        int[] row = new int[k];
        for (int i = 0; i < k; i++) {
            row[i] = all[3 - k + i];
            if (!isSymbol(row[i])) {
                return null;
            }
        }
        return row;
    }

    private int countOf(int[] row) {
        if (row.length == order) {
            return rawCountOf(row);
        }
        if (row.length > order) {
            return 0;
        }
        int different = 0;
        for (int s = 0; s <= 6; s++) {
            int[] longer = new int[row.length + 1];
            longer[0] = s;
            System.arraycopy(row, 0, longer, 1, row.length);
            different += rawCountOf(longer) > 0 ? 1 : 0;
        }
        return different;
    }

    private int rawCountOf(int[] row) {
        int events = 0;
        for (List<Integer> sentence : sentences) {
            List<Integer> symbols = framed(sentence);
            for (int at = 2; at < symbols.size(); at++) {
                boolean same = true;
                for (int i = 0; i < row.length; i++) {
                    same &= symbols.get(at - row.length + 1 + i) == row[i];
                }
                events += same ? 1 : 0;
            }
        }
        return events;
    }

    private static List<Integer> framed(List<Integer> sentence) {
        List<Integer> symbols = new ArrayList<>(List.of(6, 6));
        symbols.addAll(sentence);
        symbols.add(5);
        return symbols;
    }

    private List<Integer> allGrams(int k) {
        List<Integer> found = new ArrayList<>();
        int rows = k == 1 ? 7 : k == 2 ? 49 : 343;
        for (int number = 0; number < rows; number++) {
            if (count(k, number / 49, number / 7 % 7, number % 7) > 0) {
                found.add(number);
            }
        }
        return found;
    }

    private BigInteger[] chance(int a, int b, int w) {
        return likely(order, a, b, w);
    }

    private BigInteger[] likely(int level, int a, int b, int w) {
        if (level == 0) {
            return fraction(BigInteger.ONE, BigInteger.valueOf(6));
        }
        BigInteger[] p = likely(level - 1, a, b, w);
        int t = total(level, a, b);
        if (t == 0) {
            return p;
        }
        BigInteger own = BigInteger.valueOf(Math.max(8 * count(level, a, b, w) - eighths[level], 0));
        BigInteger shared = BigInteger.valueOf(eighths[level] * kinds(level, a, b));
        return fraction(own.multiply(p[1]).add(shared.multiply(p[0])), p[1].multiply(BigInteger.valueOf(8 * t)));
    }

    private static BigInteger[] fraction(BigInteger top, BigInteger bottom) {
        BigInteger divisor = top.gcd(bottom);
        return new BigInteger[] {top.divide(divisor), bottom.divide(divisor)};
    }

    private BigInteger[] scoreOfOpen() {
        BigInteger top = BigInteger.ONE;
        BigInteger bottom = BigInteger.ONE;
        List<Integer> symbols = framed(open);
        for (int at = 2; at < symbols.size(); at++) {
            BigInteger[] p = chance(symbols.get(at - 2), symbols.get(at - 1), symbols.get(at));
            top = top.multiply(p[0]);
            bottom = bottom.multiply(p[1]);
        }
        return new BigInteger[] {top, bottom};
    }

    private static int compare(BigInteger[] x, BigInteger[] y) {
        return x[0].multiply(y[1]).compareTo(y[0].multiply(x[1]));
    }
}
