/**
 * Learns from sentences how likely each word is behind the ones before it, as exact fractions, by
 * counts of three levels that are smoothed one by the other, and tells how likely whole sentences
 * are.
 */
public final class SmoothedGrams {
    public static final int NONE = -1;

    private static final int END = 5;
    private static final int BEGIN = 6;
    private static final int WORDS = 6;
    private static final int SYMBOLS = 7;
    private static final int LEVELS = 3;
    private static final int MOST_SENTENCES = 8;
    private static final int MOST_WORDS = 8;
    private static final int WHOLE = 8;
    private static final int FIRST_DISCOUNT = 6;

    private final Sentences sentences = new Sentences();
    private final Counts counts = new Counts();
    private final int[] eighths = new int[LEVELS + 1];
    private final Chance chance = new Chance();
    private final Score current = new Score();
    private final Score kept = new Score();
    private final Natural currentCrossed = new Natural(2 * Score.PARTS);
    private final Natural keptCrossed = new Natural(2 * Score.PARTS);

    public SmoothedGrams() {
        for (int level = 1; level <= LEVELS; level++) {
            eighths[level] = FIRST_DISCOUNT;
        }
    }

    public boolean order(int n) {
        if (!isLevel(n)) {
            return false;
        }
        counts.highest = n;
        return true;
    }

    public boolean discount(int level, int eighths) {
        if (!isLevel(level) || eighths < 1 || eighths > WHOLE) {
            return false;
        }
        this.eighths[level] = eighths;
        return true;
    }

    public boolean word(int w) {
        return w >= 0 && w < END && sentences.append(w);
    }

    public int learn() {
        if (sentences.learned == MOST_SENTENCES) {
            return NONE;
        }
        countOpen(1);
        sentences.close();
        return sentences.learned;
    }

    public int erase() {
        int had = sentences.openLength();
        sentences.clearOpen();
        return had;
    }

    public int forget() {
        if (sentences.learned == 0) {
            return NONE;
        }
        sentences.reopen();
        countOpen(-1);
        return sentences.openLength();
    }

    public int count(int k, int a, int b, int c) {
        if (!isContext(k, a, b) || !isSymbol(c)) {
            return 0;
        }
        return counts.ofRow(k, contextOf(k, a, b) * SYMBOLS + c);
    }

    public int total(int k, int a, int b) {
        return isContext(k, a, b) ? counts.sumBehind(k, contextOf(k, a, b)) : 0;
    }

    public int kinds(int k, int a, int b) {
        return isContext(k, a, b) ? counts.kindsBehind(k, contextOf(k, a, b)) : 0;
    }

    public int grams(int k) {
        if (!isLevel(k)) {
            return NONE;
        }
        int found = 0;
        for (int row = 0; row < rowsOf(k); row++) {
            if (counts.ofRow(k, row) > 0) {
                found++;
            }
        }
        return found;
    }

    public int gram(int k, int i) {
        if (!isLevel(k) || i < 0) {
            return NONE;
        }
        int before = 0;
        for (int row = 0; row < rowsOf(k); row++) {
            if (counts.ofRow(k, row) > 0) {
                if (before == i) {
                    return row;
                }
                before++;
            }
        }
        return NONE;
    }

    public long top(int a, int b, int w) {
        if (!isAsked(a, b, w)) {
            return NONE;
        }
        chance.find(counts, eighths, a, b, w);
        return chance.over;
    }

    public long bottom(int a, int b, int w) {
        if (!isAsked(a, b, w)) {
            return NONE;
        }
        chance.find(counts, eighths, a, b, w);
        return chance.under;
    }

    public int likeliest(int a, int b) {
        if (!isSymbol(a) || !isSymbol(b)) {
            return NONE;
        }
        int best = 0;
        long bestOver = 0;
        long bestUnder = 1;
        for (int w = 0; w < WORDS; w++) {
            chance.find(counts, eighths, a, b, w);
            // Both sides stay below 2^58, as a chance's bottom stays below 2^29.
            if (chance.over * bestUnder > bestOver * chance.under) {
                best = w;
                bestOver = chance.over;
                bestUnder = chance.under;
            }
        }
        return best;
    }

    public int score(int part, int i) {
        scoreOpen();
        return part == 0 ? current.over.part(i) : current.under.part(i);
    }

    public void keep() {
        scoreOpen();
        kept.copy(current);
    }

    public int against() {
        scoreOpen();
        currentCrossed.setProduct(current.over, kept.under);
        keptCrossed.setProduct(kept.over, current.under);
        return currentCrossed.compare(keptCrossed);
    }

    private static boolean isLevel(int k) {
        return k >= 1 && k <= LEVELS;
    }

    private static boolean isSymbol(int s) {
        return s >= 0 && s < SYMBOLS;
    }

    private static boolean isContext(int k, int a, int b) {
        return isLevel(k) && (k < 2 || isSymbol(b)) && (k < 3 || isSymbol(a));
    }

    private static boolean isAsked(int a, int b, int w) {
        return isSymbol(a) && isSymbol(b) && w >= 0 && w < WORDS;
    }

    /** The last k - 1 of the symbols a, b, as digits to the base 7. */
    private static int contextOf(int k, int a, int b) {
        if (k == 1) {
            return 0;
        }
        return k == 2 ? b : a * SYMBOLS + b;
    }

    /** How many rows of k symbols there are. */
    private static int rowsOf(int k) {
        if (k == 1) {
            return SYMBOLS;
        }
        return k == 2 ? SYMBOLS * SYMBOLS : SYMBOLS * SYMBOLS * SYMBOLS;
    }

    /** Adds the events of the open sentence to the raw counts, or takes them away (by = -1). */
    private void countOpen(int by) {
        for (int i = 0; i <= sentences.openLength(); i++) {
            int a = sentences.symbolAt(i - 2);
            int b = sentences.symbolAt(i - 1);
            counts.addEvent(a, b, sentences.symbolAt(i), by);
        }
    }

    /** Brings the current score up to date: any call since may have changed it. */
    private void scoreOpen() {
        current.setOne();
        for (int i = 0; i <= sentences.openLength(); i++) {
            int a = sentences.symbolAt(i - 2);
            int b = sentences.symbolAt(i - 1);
            chance.find(counts, eighths, a, b, sentences.symbolAt(i));
            current.multiply(chance);
        }
    }

    /**
     * The sentences, and behind them the open one: so learning and forgetting only move the border
     * between them.
     */
    private static final class Sentences {
        private final int[][] rows = new int[MOST_SENTENCES + 1][MOST_WORDS];
        private final int[] lengths = new int[MOST_SENTENCES + 1];
        int learned = 0;

        int openLength() {
            return lengths[learned];
        }

        boolean append(int w) {
            int length = lengths[learned];
            if (length == MOST_WORDS) {
                return false;
            }
            rows[learned][length] = w;
            lengths[learned] = length + 1;
            return true;
        }

        void clearOpen() {
            lengths[learned] = 0;
        }

        void close() {
            if (learned < MOST_SENTENCES) {
                learned++;
                lengths[learned] = 0;
            }
        }

        void reopen() {
            if (learned > 0) {
                learned--;
            }
        }

        /** What stands at a place of the open sentence, the begin before it and the end behind. */
        int symbolAt(int place) {
            if (place < 0) {
                return BEGIN;
            }
            return place < lengths[learned] ? rows[learned][place] : END;
        }
    }

    /** The counts of all rows of symbols; a row is told by its symbols as digits to the base 7. */
    private static final class Counts {
        private final int[] ones = new int[SYMBOLS];
        private final int[] twos = new int[SYMBOLS * SYMBOLS];
        private final int[] threes = new int[SYMBOLS * SYMBOLS * SYMBOLS];
        int highest = LEVELS;

        void addEvent(int a, int b, int w, int by) {
            ones[w] += by;
            twos[contextOf(2, a, b) * SYMBOLS + w] += by;
            threes[contextOf(3, a, b) * SYMBOLS + w] += by;
        }

        private int rawOf(int k, int row) {
            if (k == 1) {
                return ones[row];
            }
            return k == 2 ? twos[row] : threes[row];
        }

        int ofRow(int k, int row) {
            if (k > highest) {
                return 0;
            }
            return k == highest ? rawOf(k, row) : symbolsBefore(k, row);
        }

        private int symbolsBefore(int k, int row) {
            int different = 0;
            for (int s = 0; s < SYMBOLS; s++) {
                if (rawOf(k + 1, s * rowsOf(k) + row) > 0) {
                    different++;
                }
            }
            return different;
        }

        int sumBehind(int k, int context) {
            int sum = 0;
            for (int w = 0; w < WORDS; w++) {
                sum += ofRow(k, context * SYMBOLS + w);
            }
            return sum;
        }

        int kindsBehind(int k, int context) {
            int different = 0;
            for (int w = 0; w < WORDS; w++) {
                if (ofRow(k, context * SYMBOLS + w) > 0) {
                    different++;
                }
            }
            return different;
        }
    }

    /**
     * How likely a word is, as a fraction. It is never 0, and its bottom stays below 2^29: 6 times 8
     * times the total of each level, which is at most 72 at the order's and 42 at each below it.
     */
    private static final class Chance {
        // Euclid's steps are fewer than 50 for numbers of that size.
        private static final int MOST_STEPS = 1000;

        long over = 1;
        long under = WORDS;

        void find(Counts counts, int[] eighths, int a, int b, int w) {
            over = 1;
            under = WORDS;
            for (int level = 1; level <= counts.highest; level++) {
                smooth(counts, level, contextOf(level, a, b), w, eighths[level]);
            }
            reduce();
        }

        /** From the chance behind the context without its first symbol to that behind the context. */
        private void smooth(Counts counts, int level, int context, int w, int discount) {
            int sum = counts.sumBehind(level, context);
            if (sum == 0) {
                return;
            }
            int own = Math.max(WHOLE * counts.ofRow(level, context * SYMBOLS + w) - discount, 0);
            int shared = discount * counts.kindsBehind(level, context);
            over = own * under + shared * over;
            under = WHOLE * sum * under;
        }

        private void reduce() {
            long divisor = over;
            long rest = under;
            for (int step = 0; step < MOST_STEPS && rest != 0; step++) {
                long next = divisor % rest;
                divisor = rest;
                rest = next;
            }
            if (divisor > 1) {
                over /= divisor;
                under /= divisor;
            }
        }
    }

    /** The chances of a whole sentence, tops and bottoms multiplied each for themselves. */
    private static final class Score {
        // Nine chances below 2^29 have a product below 2^261.
        static final int PARTS = 9;

        final Natural over = new Natural(PARTS);
        final Natural under = new Natural(PARTS);

        Score() {
            setOne();
        }

        void setOne() {
            over.setOne();
            under.setOne();
        }

        void multiply(Chance chance) {
            over.multiply(chance.over);
            under.multiply(chance.under);
        }

        void copy(Score other) {
            over.copy(other.over);
            under.copy(other.under);
        }
    }

    /** A number from 0 on, in parts of 32 bits, the lowest first. */
    private static final class Natural {
        private static final long LOW = 0xFFFFFFFFL;

        private final int[] parts;

        Natural(int size) {
            parts = new int[size];
        }

        void setOne() {
            for (int i = 0; i < parts.length; i++) {
                parts[i] = i == 0 ? 1 : 0;
            }
        }

        void copy(Natural other) {
            for (int i = 0; i < parts.length; i++) {
                parts[i] = other.part(i);
            }
        }

        int part(int i) {
            return i >= 0 && i < parts.length ? parts[i] : 0;
        }

        /** The factor is below 2^31, so that no step overflows. */
        void multiply(long factor) {
            long carry = 0;
            for (int i = 0; i < parts.length; i++) {
                long sum = (parts[i] & LOW) * factor + carry;
                parts[i] = (int) sum;
                carry = sum >>> 32;
            }
        }

        void setProduct(Natural x, Natural y) {
            for (int i = 0; i < parts.length; i++) {
                parts[i] = 0;
            }
            for (int i = 0; i < x.parts.length; i++) {
                addShifted(y, x.parts[i] & LOW, i);
            }
        }

        /** Adds y times the factor times 2^(32 * shift); what would stand above the last part is 0. */
        private void addShifted(Natural y, long factor, int shift) {
            long carry = 0;
            for (int i = shift; i < parts.length; i++) {
                long sum = (y.part(i - shift) & LOW) * factor + (parts[i] & LOW) + carry;
                parts[i] = (int) sum;
                carry = sum >>> 32;
            }
        }

        /** -1, 0 or 1: whether this is less than a number of as many parts, the same, or more. */
        int compare(Natural other) {
            for (int i = parts.length - 1; i >= 0; i--) {
                int order = Integer.compareUnsigned(parts[i], other.part(i));
                if (order != 0) {
                    return order < 0 ? -1 : 1;
                }
            }
            return 0;
        }
    }
}
