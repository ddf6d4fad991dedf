/** For each promise: ordinary inputs, the edges that the document names, and wrong inputs. */
public final class PromisesTest {
    private static final int NONE = SmoothedGrams.NONE;
    private static final int LEAST = Setup.LEAST;
    private static final int MOST = Setup.MOST;

    private PromisesTest() {
    }

    public static void main(String[] args) {
        newObject();
        order();
        discount();
        word();
        learn();
        erase();
        forget();
        count();
        totalAndKinds();
        grams();
        gram();
        topAndBottom();
        totalsOfZero();
        chancesSumToOne();
        likeliest();
        score();
        keepAndAgainst();
        refusedCallsChangeNothing();
        Checks.end();
    }

    /** Promise 1. */
    private static void newObject() {
        Checks.due("1: NONE", NONE, -1);
        SmoothedGrams x = new SmoothedGrams();
        for (int k = 1; k <= 3; k++) {
            Checks.due("1: grams of a new object", x.grams(k), 0);
        }
        Checks.due("1: no open words", x.erase(), 0);
        Checks.due("1: no sentences", x.forget(), NONE);
        Checks.dueChance("1: the chance of any word", x, Checks.behind(6, 6, 3), 1, 6);
        Checks.dueScore("1: the score of nothing", x, 1, 6);
        Checks.due("1: against 1 over 1", x.against(), -1);
        // 37 / 64 needs the order 3 and 6 eighths at each level.
        Checks.dueChance("1: order and discounts", Setup.learned("0"), Checks.behind(6, 6, 0), 37, 64);
    }

    /** Promise 2. */
    private static void order() {
        SmoothedGrams x = Setup.learned("0");
        for (int n : new int[] {0, 4, -1, LEAST, MOST}) {
            Checks.due("2: a wrong order", x.order(n), false);
        }
        Checks.dueChance("2: still order 3", x, Checks.behind(6, 6, 0), 37, 64);
        Checks.due("2: order 2", x.order(2), true);
        Checks.dueChance("2: by order 2", x, Checks.behind(6, 6, 0), 7, 16);
        Checks.due("2: order 1", x.order(1), true);
        Checks.dueChance("2: by order 1", x, Checks.behind(6, 6, 0), 1, 4);
        Checks.due("2: order 3", x.order(3), true);
        Checks.dueChance("2: by order 3 again", x, Checks.behind(6, 6, 0), 37, 64);
    }

    /** Promise 3. */
    private static void discount() {
        SmoothedGrams x = Setup.learned("0");
        for (int level : new int[] {0, 4, -1, LEAST, MOST}) {
            Checks.due("3: a wrong level", x.discount(level, 3), false);
        }
        for (int eighths : new int[] {0, 9, -1, LEAST, MOST}) {
            for (int level = 1; level <= 3; level++) {
                Checks.due("3: wrong eighths", x.discount(level, eighths), false);
            }
        }
        Checks.dueChance("3: still 6 eighths", x, Checks.behind(6, 6, 0), 37, 64);
        // With all of it taken off nothing of the own count is left, and each level passes on 1 / 6.
        for (int level = 1; level <= 3; level++) {
            Checks.due("3: 8 eighths", x.discount(level, 8), true);
        }
        Checks.dueChance("3: 8 eighths everywhere", x, Checks.behind(6, 6, 0), 1, 6);
        // Level 3: (7 + 1 / 6) / 8.
        Checks.due("3: 1 eighth at level 3", x.discount(3, 1), true);
        Checks.dueChance("3: 1 eighth at level 3", x, Checks.behind(6, 6, 0), 43, 48);
        // Level 2: (4 + 4 / 6) / 8 = 7 / 12; level 3: (7 + 7 / 12) / 8.
        Checks.due("3: 4 eighths at level 2", x.discount(2, 4), true);
        Checks.dueChance("3: 4 eighths at level 2", x, Checks.behind(6, 6, 0), 91, 96);
        // Level 1: (6 + 4 / 6) / 16 = 5 / 12; level 2: (4 + 20 / 12) / 8 = 17 / 24; level 3: (7 + 17 / 24) / 8.
        Checks.due("3: 2 eighths at level 1", x.discount(1, 2), true);
        Checks.dueChance("3: 2 eighths at level 1", x, Checks.behind(6, 6, 0), 185, 192);
    }

    /** Promise 4. */
    private static void word() {
        SmoothedGrams x = new SmoothedGrams();
        for (int w : new int[] {-1, 5, 6, 7, LEAST, MOST}) {
            Checks.due("4: a wrong word", x.word(w), false);
        }
        Checks.due("4: none was put", x.erase(), 0);
        for (int i = 0; i < 8; i++) {
            Checks.due("4: word " + i, x.word(i % 5), true);
        }
        Checks.due("4: a ninth word", x.word(0), false);
        x.learn();
        x.order(1);
        for (int w = 0; w < 5; w++) {
            Checks.due("4: counted " + w, x.count(1, 0, 0, w), w < 3 ? 2 : 1);
        }
        x.order(3);
        Checks.due("4: at the end", x.count(3, 1, 2, 5), 1);
    }

    /** Promise 5. */
    private static void learn() {
        SmoothedGrams x = new SmoothedGrams();
        Setup.say(x, "01");
        Checks.due("5: the open one does not count", x.count(3, 6, 6, 0), 0);
        Checks.due("5: learn", x.learn(), 1);
        Checks.due("5: now it counts", x.count(3, 6, 6, 0), 1);
        Checks.due("5: its end too", x.count(3, 0, 1, 5), 1);
        Checks.due("5: the new one is empty", x.erase(), 0);
        for (int i = 2; i <= 8; i++) {
            Checks.due("5: learn nothing", x.learn(), i);
        }
        Checks.due("5: the end at once", x.count(3, 6, 6, 5), 7);
        Setup.say(x, "33");
        Checks.due("5: a ninth sentence", x.learn(), NONE);
        Checks.due("5: was not learned", x.count(3, 6, 6, 3), 0);
        Checks.due("5: is open still", x.erase(), 2);
        Checks.due("5: room again", x.forget(), 0);
        Checks.due("5: learn again", x.learn(), 8);
    }

    /** Promise 6. */
    private static void erase() {
        SmoothedGrams x = Setup.learned("12");
        Checks.due("6: an empty one", x.erase(), 0);
        Setup.say(x, "01234012");
        Checks.due("6: a full one", x.erase(), 8);
        Checks.due("6: is empty", x.erase(), 0);
        Checks.due("6: has room", x.word(4), true);
        Checks.due("6: one word", x.erase(), 1);
        Checks.due("6: sentences stay", x.count(3, 6, 1, 2), 1);
        Checks.due("6: so many", x.learn(), 2);
    }

    /** Promise 7. */
    private static void forget() {
        SmoothedGrams x = Setup.learned("0", "1234", "");
        Setup.say(x, "22");
        Checks.due("7: the latest", x.forget(), 0);
        Checks.due("7: in place of the open one", x.erase(), 0);
        Checks.due("7: the one before", x.forget(), 4);
        Checks.due("7: is taken back", x.count(3, 6, 6, 1), 0);
        Checks.due("7: is taken back to the end", x.count(3, 3, 4, 5), 0);
        Checks.due("7: the first one stays", x.count(3, 6, 6, 0), 1);
        Checks.due("7: goes on", x.word(4), true);
        Checks.due("7: and is learned again", x.learn(), 2);
        Checks.due("7: its words are as they were", x.count(3, 2, 3, 4), 1);
        Checks.due("7: with the new one", x.count(3, 4, 4, 5), 1);
        Checks.due("7: back", x.forget(), 5);
        Checks.due("7: back to the first", x.forget(), 1);
        Checks.due("7: nothing counts", x.grams(1) + x.grams(2) + x.grams(3), 0);
        Checks.due("7: no sentence", x.forget(), NONE);
        Checks.due("7: the open one stays", x.erase(), 1);
    }

    /** Promise 8. */
    private static void count() {
        SmoothedGrams x = Setup.learned("010", "01", "1");
        Checks.due("8: raw at the order", x.count(3, 6, 0, 1), 2);
        Checks.due("8: the begin twice", x.count(3, 6, 6, 0), 2);
        Checks.due("8: symbols before 0 1", x.count(2, 0, 0, 1), 1);
        Checks.due("8: symbols before 1 end", x.count(2, 0, 1, 5), 2);
        Checks.due("8: words before 1", x.count(1, 0, 0, 1), 2);
        Checks.due("8: words before the end", x.count(1, 0, 0, 5), 2);
        Checks.due("8: the begin is no word", x.count(1, 0, 0, 6), 0);
        Checks.due("8: nor behind the begin", x.count(2, 0, 6, 6) + x.count(3, 6, 6, 6), 0);
        Checks.due("8: a is not looked at", x.count(2, 99, 0, 1), 1);
        Checks.due("8: a, b are not looked at", x.count(1, -5, 99, 1), 2);
        x.order(2);
        Checks.due("8: above the order", x.count(3, 6, 0, 1), 0);
        Checks.due("8: raw at order 2", x.count(2, 0, 0, 1), 2);
        Checks.due("8: before 0, order 2", x.count(1, 0, 0, 0), 2);
        x.order(1);
        Checks.due("8: above order 1", x.count(2, 0, 0, 1), 0);
        Checks.due("8: raw at order 1", x.count(1, 0, 0, 5), 3);
        x.order(3);
        for (int k : new int[] {0, 4, -1, LEAST, MOST}) {
            Checks.due("8: no such k", x.count(k, 6, 0, 1), 0);
        }
        for (int none : new int[] {-1, 7, LEAST, MOST}) {
            Checks.due("8: no symbol a", x.count(3, none, 0, 1), 0);
            Checks.due("8: no symbol b", x.count(3, 6, none, 1) + x.count(2, 6, none, 1), 0);
            Checks.due("8: no symbol c", x.count(3, 6, 0, none) + x.count(2, 6, 0, none) + x.count(1, 6, 0, none), 0);
        }
        // These would be the rows 6 0 1 and 0 1, if the digits ran over.
        Checks.due("8: no digit runs over", x.count(3, 5, 7, 1) + x.count(3, 6, -1, 8) + x.count(2, 0, -1, 8), 0);
    }

    /** Promises 9 and 10. */
    private static void totalAndKinds() {
        SmoothedGrams x = Setup.learned("0", "0", "1", "", "10");
        Checks.due("9: level 3", x.total(3, 6, 6), 5);
        Checks.due("10: level 3", x.kinds(3, 6, 6), 3);
        // Only the begin stands before 6 0, 6 1 and 6 5.
        Checks.due("9: level 2", x.total(2, 0, 6), 3);
        Checks.due("10: level 2", x.kinds(2, 0, 6), 3);
        // 6 0 5 and 1 0 5 were seen.
        Checks.due("9: level 2 behind 0", x.total(2, 0, 0), 2);
        Checks.due("10: level 2 behind 0", x.kinds(2, 0, 0), 1);
        // 0 behind 6 and 1, 1 behind 6, the end behind 6, 0 and 1.
        Checks.due("9: level 1", x.total(1, 0, 0), 6);
        Checks.due("10: level 1", x.kinds(1, 0, 0), 3);
        Checks.due("9: not looked at", x.total(2, 7, 6) + x.total(1, -1, MOST), 9);
        Checks.due("10: not looked at", x.kinds(2, 7, 6) + x.kinds(1, -1, MOST), 6);
        Checks.due("9: an unseen context", x.total(3, 4, 4), 0);
        Checks.due("10: an unseen context", x.kinds(3, 4, 4), 0);
        for (int k : new int[] {0, 4, -1, LEAST, MOST}) {
            Checks.due("9: no such level", x.total(k, 6, 6), 0);
            Checks.due("10: no such level", x.kinds(k, 6, 6), 0);
        }
        for (int none : new int[] {-1, 7, LEAST, MOST}) {
            Checks.due("9: no symbol", x.total(3, none, 6) + x.total(3, 6, none) + x.total(2, 6, none), 0);
            Checks.due("10: no symbol", x.kinds(3, none, 6) + x.kinds(3, 6, none) + x.kinds(2, 6, none), 0);
        }
        x.order(1);
        Checks.due("9: raw at order 1", x.total(1, 0, 0), 10);
        Checks.due("9: above the order", x.total(2, 0, 6) + x.total(3, 6, 6), 0);
        Checks.due("10: above the order", x.kinds(2, 0, 6) + x.kinds(3, 6, 6), 0);
    }

    /** Promise 11. */
    private static void grams() {
        SmoothedGrams x = Setup.learned("010", "01");
        Checks.due("11: level 3", x.grams(3), 5);
        Checks.due("11: level 2", x.grams(2), 5);
        Checks.due("11: level 1", x.grams(1), 3);
        for (int k : new int[] {0, 4, -1, LEAST, MOST}) {
            Checks.due("11: no such level", x.grams(k), NONE);
        }
        x.order(2);
        Checks.due("11: above the order", x.grams(3), 0);
        Checks.due("11: at order 2", x.grams(2), 5);
    }

    /** Promise 12. */
    private static void gram() {
        SmoothedGrams x = Setup.learned("010", "01");
        // Level 2: 01 05 10 15 60; level 3: 010 015 105 601 660.
        int[][] rows = {{0, 1, 5}, {1, 5, 7, 12, 42}, {7, 12, 54, 295, 336}};
        for (int k = 1; k <= 3; k++) {
            for (int i = 0; i < rows[k - 1].length; i++) {
                Checks.due("12: gram " + i + " of level " + k, x.gram(k, i), rows[k - 1][i]);
            }
            Checks.due("12: behind the last one", x.gram(k, rows[k - 1].length), NONE);
            Checks.due("12: before the first one", x.gram(k, -1), NONE);
            Checks.due("12: far before", x.gram(k, LEAST), NONE);
            Checks.due("12: far behind", x.gram(k, MOST), NONE);
        }
        for (int k : new int[] {0, 4, -1, LEAST, MOST}) {
            Checks.due("12: no such level", x.gram(k, 0), NONE);
        }
        x.order(1);
        Checks.due("12: above the order", x.gram(2, 0), NONE);
        Checks.due("12: at order 1", x.gram(1, 2), 5);
    }

    /** Promises 13 and 14. */
    private static void topAndBottom() {
        SmoothedGrams x = Setup.learned("0");
        Checks.dueChance("13: seen", x, Checks.behind(6, 6, 0), 37, 64);
        Checks.dueChance("13: unseen", x, Checks.behind(6, 6, 1), 9, 128);
        Checks.dueChance("13: the end", x, Checks.behind(6, 6, 5), 9, 64);
        Checks.dueChance("13: behind 6 0", x, Checks.behind(6, 0, 5), 37, 64);
        for (int none : new int[] {-1, 7, LEAST, MOST}) {
            for (int n = 3; n >= 1; n--) {
                x.order(n);
                Checks.dueChance("13: no symbol a", x, Checks.behind(none, 6, 0), NONE, NONE);
                Checks.dueChance("13: no symbol b", x, Checks.behind(6, none, 0), NONE, NONE);
                Checks.dueChance("13: no word", x, Checks.behind(6, 6, none), NONE, NONE);
                Checks.dueChance("13: the begin is no word", x, Checks.behind(6, 6, 6), NONE, NONE);
            }
        }
        // Before they are reduced: 12 / 24, 4 / 24 and 2 / 24.
        SmoothedGrams y = Setup.learned("00");
        y.order(1);
        Checks.dueChance("13: lowest terms", y, Checks.behind(1, 4, 0), 1, 2);
        Checks.dueChance("13: lowest terms of the end", y, Checks.behind(4, 1, 5), 1, 6);
        Checks.dueChance("13: lowest terms of the unseen", y, Checks.behind(6, 6, 4), 1, 12);
    }

    /** A total of 0 leaves the chance of the level below as it is. */
    private static void totalsOfZero() {
        SmoothedGrams x = Setup.learned("0");
        Checks.dueChance("13: level 3 unseen", x, Checks.behind(0, 6, 0), 7, 16);
        Checks.dueChance("13: level 3 unseen behind 0", x, Checks.behind(0, 0, 5), 7, 16);
        Checks.dueChance("13: levels 3 and 2 unseen", x, Checks.behind(1, 1, 5), 1, 4);
        Checks.dueChance("13: and an unseen word", x, Checks.behind(0, 1, 4), 1, 8);
        x.forget();
        Checks.dueChance("13: all unseen", x, Checks.behind(0, 0, 5), 1, 6);
    }

    private static void chancesSumToOne() {
        SmoothedGrams x = Setup.learned("0120", "1102", "3", "", "0", "44444444");
        x.discount(2, 3);
        x.discount(3, 8);
        for (int a = 0; a <= 6; a++) {
            long top = 0;
            long bottom = 1;
            for (int w = 0; w <= 5; w++) {
                long nextBottom = x.bottom(a, 0, w);
                top = top * nextBottom + x.top(a, 0, w) * bottom;
                bottom *= nextBottom;
                long divisor = java.math.BigInteger.valueOf(top).gcd(java.math.BigInteger.valueOf(bottom)).longValue();
                top /= divisor;
                bottom /= divisor;
            }
            Checks.due("13: sum of tops behind " + a + " 0", top, 1);
            Checks.due("14: sum of bottoms behind " + a + " 0", bottom, 1);
        }
    }

    /** Promise 15. */
    private static void likeliest() {
        Checks.due("15: all the same", new SmoothedGrams().likeliest(3, 6), 0);
        SmoothedGrams x = Setup.learned("4", "2", "21", "41");
        Checks.due("15: the least of two", x.likeliest(6, 6), 2);
        Checks.due("15: the least with the end", x.likeliest(6, 2), 5);
        Checks.due("15: the end", x.likeliest(2, 1), 5);
        x.word(4);
        x.learn();
        Checks.due("15: the greatest", x.likeliest(6, 6), 4);
        for (int none : new int[] {-1, 7, LEAST, MOST}) {
            for (int n = 3; n >= 1; n--) {
                x.order(n);
                Checks.due("15: no symbol a", x.likeliest(none, 6), NONE);
                Checks.due("15: no symbol b", x.likeliest(6, none), NONE);
            }
        }
        Checks.due("15: by order 1", x.likeliest(6, 6), 5);
    }

    /** Promise 16. */
    private static void score() {
        SmoothedGrams x = Setup.learned("0");
        Checks.dueScore("16: of the end alone", x, 9, 64);
        x.word(0);
        Checks.dueScore("16: of 0", x, 37 * 37, 64 * 64);
        x.erase();
        x.word(1);
        Checks.dueScore("16: of 1", x, 9, 128 * 4);
        for (int part : new int[] {1, 2, -1, LEAST, MOST}) {
            Checks.due("16: any other part", x.score(part, 0), 512);
        }
        for (int i : new int[] {-1, -32, LEAST}) {
            Checks.due("16: i below 0", x.score(0, i) | x.score(1, i), 0);
        }
        for (int i : new int[] {1, 8, 9, 10, 31, 32, 1 << 27, MOST}) {
            Checks.due("16: no bits there", x.score(0, i) | x.score(1, i), 0);
        }
        SmoothedGrams y = Setup.learned("", "", "", "", "");
        y.order(1);
        y.discount(1, 8);
        y.word(0);
        // 1 / 30 times 5 / 6.
        Checks.dueScore("16: not in lowest terms", y, 5, 180);
        // 5 / (6 * 30^8), the bottom of which needs more than 32 bits.
        Setup.say(y, "1234012");
        long bottom = 6 * 656100000000L;
        Checks.due("16: low part", y.score(1, 0), (int) bottom);
        Checks.due("16: high part", y.score(1, 1), (int) (bottom >>> 32));
        Checks.due("16: top beside", y.score(0, 0), 5);
    }

    /** Promises 17 and 18. */
    private static void keepAndAgainst() {
        SmoothedGrams x = Setup.learned("0");
        Checks.due("18: against 1 over 1", x.against(), -1);
        x.keep();
        Checks.due("18: against itself", x.against(), 0);
        x.word(0);
        Checks.due("18: more", x.against(), 1);
        x.erase();
        x.word(1);
        Checks.due("18: less", x.against(), -1);
        x.keep();
        x.erase();
        Checks.due("17: kept anew", x.against(), 1);
        SmoothedGrams y = Setup.learned("", "", "", "", "");
        y.order(1);
        y.discount(1, 8);
        Setup.say(y, "0");
        // 5 / 180 is kept, and stays what it was, whatever becomes of its sentence and of the counts.
        y.keep();
        for (int i = 0; i < 5; i++) {
            y.forget();
        }
        y.word(0);
        Checks.due("17: 1 / 36 by other counts is as much", y.against(), 0);
        y.erase();
        Checks.due("17: 1 / 6", y.against(), 1);
        Setup.say(y, "01");
        Checks.due("17: 1 / 216", y.against(), -1);
        long first = state(y);
        y.against();
        y.score(0, 0);
        Checks.due("18: changes nothing", state(y), first);
    }

    /** A number that any change of the state is all but sure to change. */
    private static long state(SmoothedGrams x) {
        long sum = x.against();
        for (int part = 0; part < 2; part++) {
            for (int i = 0; i < 3; i++) {
                sum = sum * 31 + x.score(part, i);
            }
        }
        for (int k = 1; k <= 3; k++) {
            sum = sum * 31 + x.grams(k);
            sum = sum * 31 + x.total(k, 6, 6);
        }
        return (sum * 31 + x.top(6, 6, 0)) * 31 + x.bottom(6, 6, 0);
    }

    private static void refusedCallsChangeNothing() {
        SmoothedGrams x = Setup.learned("0", "1", "2", "3", "4", "", "00", "0123");
        Setup.say(x, "01234012");
        x.keep();
        x.discount(3, 5);
        long before = state(x);
        x.order(0);
        x.order(4);
        x.discount(0, 1);
        x.discount(4, 1);
        x.discount(1, 0);
        x.discount(1, 9);
        x.word(0);
        x.word(5);
        x.word(-1);
        x.learn();
        Checks.due("a refused call changes nothing", state(x), before);
        SmoothedGrams y = new SmoothedGrams();
        Setup.say(y, "0123");
        before = state(y);
        y.forget();
        Checks.due("a refused forget changes nothing", state(y), before);
        Checks.due("a refused forget leaves the words", y.erase(), 4);
    }
}
