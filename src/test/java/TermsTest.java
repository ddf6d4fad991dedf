import java.math.BigInteger;

/** The sentences of 'What it is' and of 'Terms', each by itself, on both sides of its boundaries. */
public final class TermsTest {
    private static final int NONE = SmoothedGrams.NONE;
    private static final int MOST_CALLS = 512;
    private static final String[] EIGHT = {"01234012", "43210432", "00000000", "11111111", "22222222", "33333333",
        "44444444", "01010101"};

    private TermsTest() {
    }

    public static void main(String[] args) {
        lastOf512Calls();
        manyRefusedCalls();
        endIsAWord();
        beginMayStandBefore();
        upToEightSentences();
        upToEightWords();
        perhapsNoWords();
        openAtFirstEmpty();
        orderAtFirstThree();
        eighthsAtFirstSix();
        notOfTheOpenOne();
        everyWordAndTheEndIsAnEvent();
        beginWhereThereIsNone();
        oneEventMoreThanWords();
        rightBeforeInTheSameSentence();
        rawCountAtTheOrder();
        differentSymbolsBelowTheOrder();
        zeroAboveTheOrder();
        totals();
        kinds();
        oneSixthBelowLevelOne();
        totalOfZero();
        neverBelowZero();
        behindAsManyAsTheOrderWants();
        lowestTerms();
        scoreHasTheEnd();
        scoreOfEightWords();
        scoreNotInLowestTerms();
        keptAtFirst();
        gramsAreAboveZero();
        gramsInOrder();
        Checks.end();
    }

    /** "An object is used for at most 512 calls after it has been made." */
    private static void lastOf512Calls() {
        for (int last = 0; last < 18; last++) {
            SmoothedGrams x = Setup.learned(EIGHT);
            // 64 words and 8 times learn so far; the last sentence goes and comes till one call is left.
            int calls = 72;
            for (; calls + 2 < MOST_CALLS; calls += 2) {
                x.forget();
                x.learn();
            }
            for (; calls < MOST_CALLS - 1; calls++) {
                x.word(9);
            }
            Checks.due("call 512 of kind " + last, oneCall(x, last), oneCall(Setup.learned(EIGHT), last));
        }
    }

    private static long oneCall(SmoothedGrams x, int kind) {
        return switch (kind) {
            case 0 -> x.order(2) ? 1 : 0;
            case 1 -> x.discount(1, 8) ? 1 : 0;
            case 2 -> x.word(4) ? 1 : 0;
            case 3 -> x.learn();
            case 4 -> x.erase();
            case 5 -> x.forget();
            case 6 -> x.count(3, 0, 0, 0);
            case 7 -> x.total(2, 0, 0);
            case 8 -> x.kinds(1, 0, 0);
            case 9 -> x.grams(3);
            case 10 -> x.gram(2, 11);
            case 11 -> x.top(0, 1, 0);
            case 12 -> x.bottom(0, 1, 0);
            case 13 -> x.likeliest(6, 6);
            case 14 -> x.score(0, 0);
            case 15 -> x.score(1, 0);
            case 16 -> x.against();
            default -> x.grams(0);
        };
    }

    /** The same, where calls are refused over and over, and where nothing but words comes. */
    private static void manyRefusedCalls() {
        SmoothedGrams x = Setup.learned(EIGHT);
        for (int call = 72; call < MOST_CALLS - 1; call++) {
            Checks.due("learn as call " + call, x.learn(), NONE);
        }
        Checks.due("call 512 behind refused ones", x.forget(), 8);
        SmoothedGrams y = new SmoothedGrams();
        for (int call = 0; call < MOST_CALLS - 1; call++) {
            Checks.due("word as call " + call, y.word(call % 5), call < 8);
        }
        Checks.due("call 512 behind words", y.erase(), 8);
        SmoothedGrams z = new SmoothedGrams();
        for (int call = 0; call < MOST_CALLS - 1; call++) {
            Checks.due("forget as call " + call, z.forget(), NONE);
        }
        Checks.due("call 512 behind forget", z.learn(), 1);
    }

    /** "WORDS are 0 .. 5, 5 being the END": its chance may be asked for, and it may be the likeliest. */
    private static void endIsAWord() {
        SmoothedGrams x = Setup.learned("", "", "");
        Checks.due("the end is a word", x.top(6, 6, 5) > 0, true);
        Checks.due("the end has kinds of its own", x.kinds(3, 6, 6), 1);
        Checks.due("the end is the likeliest", x.likeliest(6, 6), 5);
        Checks.due("but the end is not put into a sentence", x.word(5), false);
    }

    /** "6 is the BEGIN, which is no word, but may stand before words." */
    private static void beginMayStandBefore() {
        SmoothedGrams x = Setup.learned("0", "40");
        Checks.due("6 6 0", x.count(3, 6, 6, 0), 1);
        Checks.due("6 4 0", x.count(3, 6, 4, 0), 1);
        Checks.due("behind 6 6", x.total(3, 6, 6), 2);
        Checks.due("likeliest behind 6 6", x.likeliest(6, 6), 0);
        Checks.due("no chance of 6", x.top(6, 6, 6), NONE);
        Checks.due("no chance of 6, bottom", x.bottom(0, 0, 6), NONE);
        Checks.due("6 is not put into a sentence", x.word(6), false);
        for (int n = 1; n <= 3; n++) {
            x.order(n);
            Checks.due("6 is never behind", x.count(3, 6, 6, 6) + x.count(2, 6, 6, 6) + x.count(1, 6, 6, 6), 0);
        }
    }

    /** "There are up to 8 SENTENCES". */
    private static void upToEightSentences() {
        SmoothedGrams x = new SmoothedGrams();
        x.order(1);
        for (int i = 1; i <= 8; i++) {
            x.word(0);
            Checks.due("sentence " + i, x.learn(), i);
            Checks.due("its word is counted", x.count(1, 0, 0, 0), i);
        }
        x.word(0);
        Checks.due("a ninth sentence", x.learn(), NONE);
        Checks.due("is not counted", x.count(1, 0, 0, 0), 8);
        for (int i = 8; i >= 1; i--) {
            Checks.due("sentence " + i + " is forgotten", x.forget(), 1);
        }
        Checks.due("there is no sentence more", x.forget(), NONE);
    }

    /** "each a row of up to 8 words 0 .. 4": also the eighth is there, and counted. */
    private static void upToEightWords() {
        for (int w = 0; w <= 4; w++) {
            SmoothedGrams x = new SmoothedGrams();
            x.order(1);
            for (int i = 1; i <= 8; i++) {
                Checks.due("word " + i, x.word(w), true);
            }
            Checks.due("a ninth word", x.word(w), false);
            x.learn();
            Checks.due("eight words are counted", x.count(1, 0, 0, w), 8);
            Checks.due("and one end", x.count(1, 0, 0, 5), 1);
            Checks.due("eight words are forgotten", x.forget(), 8);
        }
    }

    /** "(perhaps none)": a sentence without words is one, and has its end. */
    private static void perhapsNoWords() {
        SmoothedGrams x = new SmoothedGrams();
        for (int i = 1; i <= 8; i++) {
            Checks.due("an empty sentence", x.learn(), i);
            Checks.due("its end behind two begins", x.count(3, 6, 6, 5), i);
        }
        Checks.due("no other event", x.grams(3), 1);
        Checks.due("a ninth empty sentence", x.learn(), NONE);
        for (int i = 7; i >= 0; i--) {
            Checks.due("an empty sentence is forgotten", x.forget(), 0);
            Checks.due("and its end", x.count(3, 6, 6, 5), i);
        }
    }

    /** "one that is OPEN, at first empty". */
    private static void openAtFirstEmpty() {
        Checks.due("no word to erase", new SmoothedGrams().erase(), 0);
        SmoothedGrams x = new SmoothedGrams();
        x.learn();
        Checks.due("learned, it has just its end", x.gram(3, 0), 6 * 49 + 6 * 7 + 5);
        Checks.due("and nothing else", x.grams(3), 1);
        SmoothedGrams y = new SmoothedGrams();
        for (int i = 0; i < 8; i++) {
            Checks.due("there is room for eight", y.word(0), true);
        }
        Checks.due("and for no more", y.word(0), false);
    }

    /** "The ORDER is 1, 2 or 3, at first 3". */
    private static void orderAtFirstThree() {
        SmoothedGrams x = Setup.learned("00", "00");
        Checks.due("level 3 is raw at first", x.count(3, 6, 0, 0), 2);
        Checks.due("level 2 is not", x.count(2, 0, 0, 0), 1);
        for (int n = 1; n <= 3; n++) {
            Checks.due("order " + n, x.order(n), true);
            Checks.due("grams above the order", x.grams(3) > 0, n == 3);
            Checks.due("grams at level 2", x.grams(2) > 0, n >= 2);
            Checks.due("grams at level 1", x.grams(1) > 0, true);
        }
    }

    /** "a number of EIGHTHS from 1 to 8, at first 6": each of them at each level, by the formula. */
    private static void eighthsAtFirstSix() {
        dueSmoothed(Setup.learned("0"), 6, 6, 6);
        for (int all = 0; all < 512; all++) {
            int[] e = {1 + all / 64, 1 + all / 8 % 8, 1 + all % 8};
            SmoothedGrams x = new SmoothedGrams();
            for (int level = 1; level <= 3; level++) {
                Checks.due("eighths", x.discount(level, e[level - 1]), true);
            }
            Setup.learn(x, "0");
            dueSmoothed(x, e[0], e[1], e[2]);
        }
        // Each level by itself, the others being as at first.
        for (int e = 1; e <= 8; e++) {
            for (int level = 1; level <= 3; level++) {
                SmoothedGrams x = Setup.learned("0");
                x.discount(level, e);
                dueSmoothed(x, level == 1 ? e : 6, level == 2 ? e : 6, level == 3 ? e : 6);
            }
        }
    }

    /** Behind 6 6 the one sentence 0 has 0 once of one, behind 6 once of one, behind nothing once of two. */
    private static void dueSmoothed(SmoothedGrams x, int e1, int e2, int e3) {
        long bottom1 = 6 * 16;
        long top1 = 6 * (8 - e1) + 2 * e1;
        long bottom2 = 8 * bottom1;
        long top2 = (8 - e2) * bottom1 + e2 * top1;
        long bottom3 = 8 * bottom2;
        long top3 = (8 - e3) * bottom2 + e3 * top2;
        long divisor = BigInteger.valueOf(top3).gcd(BigInteger.valueOf(bottom3)).longValue();
        String what = "by " + e1 + ", " + e2 + ", " + e3 + " eighths";
        Checks.dueChance(what, x, Checks.behind(6, 6, 0), top3 / divisor, bottom3 / divisor);
    }

    /** "Of each sentence (not of the open one)". */
    private static void notOfTheOpenOne() {
        SmoothedGrams x = Setup.learned("1");
        Setup.say(x, "01234012");
        Checks.due("the open one has no grams", x.grams(3), 2);
        Checks.due("its words are not counted", x.count(1, 0, 0, 0), 0);
        x.learn();
        Checks.due("but when it is learned", x.count(1, 0, 0, 0), 2);
        // Of its nine events 0 1 2 comes twice.
        Checks.due("all of it", x.grams(3), 10);
        x.forget();
        Checks.due("and not when it is open again", x.count(1, 0, 0, 0), 0);
        Checks.due("none of it", x.grams(3), 2);
    }

    /** "every word, and the end behind its last word, is an EVENT". */
    private static void everyWordAndTheEndIsAnEvent() {
        SmoothedGrams x = Setup.learned("01234012");
        int[][] events = {{6, 6, 0}, {6, 0, 1}, {0, 1, 2}, {1, 2, 3}, {2, 3, 4}, {3, 4, 0}, {4, 0, 1}, {0, 1, 2},
            {1, 2, 5}};
        for (int[] event : events) {
            boolean twice = event[0] == 0 && event[1] == 1;
            Checks.due("an event", x.count(3, event[0], event[1], event[2]), twice ? 2 : 1);
        }
        Checks.due("no other events", x.grams(3), events.length - 1);
    }

    /** "the two symbols before it in the sentence, 6 where there is none". */
    private static void beginWhereThereIsNone() {
        SmoothedGrams none = Setup.learned("");
        Checks.due("both missing before the end", none.count(3, 6, 6, 5), 1);
        SmoothedGrams one = Setup.learned("0");
        Checks.due("both missing before a word", one.count(3, 6, 6, 0), 1);
        Checks.due("one missing before the end", one.count(3, 6, 0, 5), 1);
        Checks.due("no other", one.grams(3), 2);
        SmoothedGrams two = Setup.learned("01");
        Checks.due("one missing before a word", two.count(3, 6, 0, 1), 1);
        Checks.due("none missing", two.count(3, 0, 1, 5), 1);
        Checks.due("no other of two", two.grams(3), 3);
    }

    /** "(So a sentence of m words has m + 1 events.)" */
    private static void oneEventMoreThanWords() {
        for (int m = 0; m <= 8; m++) {
            SmoothedGrams x = Setup.learned("01234012".substring(0, m));
            x.order(1);
            Checks.due("events of " + m + " words", x.total(1, 0, 0), m + 1);
        }
        SmoothedGrams full = Setup.learned(EIGHT);
        full.order(1);
        Checks.due("events of eight times eight words", full.total(1, 0, 0), 72);
    }

    /** "its other ones as the symbols right before": in one sentence, with nothing between. */
    private static void rightBeforeInTheSameSentence() {
        SmoothedGrams x = Setup.learned("0", "1", "243");
        for (int n = 2; n <= 3; n++) {
            x.order(n);
            Checks.due("not from one sentence to the next", x.count(2, 0, 0, 1), 0);
            Checks.due("the end is before nothing", x.count(2, 0, 5, 1), 0);
            Checks.due("not with a word between", x.count(2, 0, 2, 3), 0);
            Checks.due("not the other way round", x.count(2, 0, 4, 2), 0);
            Checks.due("right before", x.count(2, 0, 2, 4), 1);
        }
        Checks.due("the first of three as well", x.count(3, 2, 4, 3), 1);
        Checks.due("not another first one", x.count(3, 6, 4, 3), 0);
    }

    /** "for k = the order its raw count": up to all that eight sentences can have. */
    private static void rawCountAtTheOrder() {
        String zeros = "00000000";
        SmoothedGrams x = Setup.learned(zeros, zeros, zeros, zeros, zeros, zeros, zeros, zeros);
        Checks.due("0 0 0", x.count(3, 0, 0, 0), 48);
        Checks.due("6 0 0", x.count(3, 6, 0, 0), 8);
        x.order(2);
        Checks.due("0 0", x.count(2, 0, 0, 0), 56);
        Checks.due("0 5", x.count(2, 0, 0, 5), 8);
        x.order(1);
        Checks.due("0", x.count(1, 0, 0, 0), 64);
        Checks.due("5", x.count(1, 0, 0, 5), 8);
        Checks.due("an unseen one", x.count(1, 0, 0, 1), 0);
    }

    /** "for k below the order how many different symbols s there are": how often does not matter. */
    private static void differentSymbolsBelowTheOrder() {
        SmoothedGrams x = new SmoothedGrams();
        String[] sentences = {"00", "10", "20", "30", "40", "40", "000"};
        int[] before0 = {2, 3, 4, 5, 6, 6, 6};
        for (int i = 0; i < sentences.length; i++) {
            Setup.learn(x, sentences[i]);
            for (int n = 2; n <= 3; n++) {
                x.order(n);
                Checks.due("before 0, order " + n, x.count(1, 0, 0, 0), before0[i]);
            }
        }
        SmoothedGrams y = new SmoothedGrams();
        String[] longer = {"00", "000", "100", "200", "300", "400", "1000"};
        int[] before00 = {1, 2, 3, 4, 5, 6, 6};
        for (int i = 0; i < longer.length; i++) {
            Setup.learn(y, longer[i]);
            Checks.due("before 0 0", y.count(2, 0, 0, 0), before00[i]);
        }
        for (int i = longer.length - 1; i > 0; i--) {
            y.forget();
            Checks.due("before 0 0, forgotten", y.count(2, 0, 0, 0), before00[i - 1]);
        }
        y.forget();
        Checks.due("a raw count that is 0 again", y.count(2, 0, 0, 0), 0);
        Checks.due("only the begin is before the begin", Setup.learned("0", "0").count(2, 0, 6, 0), 1);
    }

    /** "for k above the order 0". */
    private static void zeroAboveTheOrder() {
        SmoothedGrams x = Setup.learned("000", "000");
        boolean[][] counted = {{true, false, false}, {true, true, false}, {true, true, true}};
        for (int n = 1; n <= 3; n++) {
            x.order(n);
            for (int k = 1; k <= 3; k++) {
                boolean any = counted[n - 1][k - 1];
                String what = "level " + k + " at order " + n;
                Checks.due("count of " + what, x.count(k, 0, 0, 0) > 0, any);
                Checks.due("total of " + what, x.total(k, 0, 0) > 0, any);
                Checks.due("kinds of " + what, x.kinds(k, 0, 0) > 0, any);
                Checks.due("grams of " + what, x.grams(k) > 0, any);
                Checks.due("first gram of " + what, x.gram(k, 0), any ? 0 : NONE);
            }
        }
    }

    /** "its TOTAL is the sum of the counts of all rows of the context and a word behind it". */
    private static void totals() {
        SmoothedGrams x = new SmoothedGrams();
        Checks.due("a total of none", x.total(3, 6, 6) + x.total(2, 6, 6) + x.total(1, 6, 6), 0);
        String[] first = {"0", "1", "2", "3", "4", "", "", "4"};
        for (int i = 0; i < first.length; i++) {
            Setup.learn(x, first[i]);
            Checks.due("the total behind 6 6", x.total(3, 6, 6), i + 1);
            Checks.due("the total behind 6", x.total(2, 0, 6), Math.min(i + 1, 6));
        }
        // 0 to 4 behind the begin; the end behind these five and the begin.
        Checks.due("the total behind nothing", x.total(1, 0, 0), 11);
        x.order(2);
        Checks.due("the raw total behind 6", x.total(2, 0, 6), 8);
        x.order(1);
        Checks.due("the raw total behind nothing", x.total(1, 0, 0), 14);
    }

    /** "its KINDS how many of these counts are above 0": none, one and all six. */
    private static void kinds() {
        SmoothedGrams x = new SmoothedGrams();
        Checks.due("no kinds", x.kinds(3, 6, 6) + x.kinds(2, 6, 6) + x.kinds(1, 6, 6), 0);
        String[] first = {"0", "0", "1", "2", "3", "4", "", "4"};
        int[] kinds = {1, 1, 2, 3, 4, 5, 6, 6};
        int[] alone = {2, 2, 3, 4, 5, 6, 6, 6};
        for (int i = 0; i < first.length; i++) {
            Setup.learn(x, first[i]);
            Checks.due("the kinds behind 6 6", x.kinds(3, 6, 6), kinds[i]);
            Checks.due("the kinds behind 6", x.kinds(2, 0, 6), kinds[i]);
            Checks.due("the kinds behind nothing", x.kinds(1, 0, 0), alone[i]);
        }
        for (int i = first.length - 2; i >= 0; i--) {
            x.forget();
            Checks.due("the kinds, forgotten", x.kinds(3, 6, 6), kinds[i]);
        }
    }

    /** "(for level 1: 1 / 6)": what is behind any two symbols, as long as there is no sentence. */
    private static void oneSixthBelowLevelOne() {
        for (int n = 1; n <= 3; n++) {
            for (int a = 0; a <= 6; a++) {
                SmoothedGrams x = new SmoothedGrams();
                x.order(n);
                for (int bw = 0; bw < 42; bw++) {
                    Checks.dueChance("no sentence", x, Checks.behind(a, bw / 6, bw % 6), 1, 6);
                }
            }
        }
        SmoothedGrams y = Setup.learned("");
        y.order(1);
        // (2 + 6 / 6) / 8 and (0 + 6 / 6) / 8.
        Checks.dueChance("the seen one", y, Checks.behind(0, 0, 5), 3, 8);
        Checks.dueChance("an unseen one", y, Checks.behind(0, 0, 0), 1, 8);
    }

    /** "if t is 0, just p": at each level, and just above it. */
    private static void totalOfZero() {
        SmoothedGrams x = Setup.learned("0");
        Checks.due("level 3 has a total", x.total(3, 6, 0), 1);
        Checks.dueChance("by all levels", x, Checks.behind(6, 0, 5), 37, 64);
        Checks.due("level 3 has none", x.total(3, 0, 0), 0);
        Checks.due("level 2 has one", x.total(2, 0, 0), 1);
        Checks.dueChance("by levels 2 and 1", x, Checks.behind(0, 0, 5), 7, 16);
        Checks.due("level 2 has none", x.total(2, 0, 1), 0);
        Checks.due("level 1 has one", x.total(1, 0, 1), 2);
        Checks.dueChance("by level 1", x, Checks.behind(0, 1, 5), 1, 4);
        x.forget();
        Checks.due("level 1 has none", x.total(1, 0, 1), 0);
        Checks.dueChance("by no level", x, Checks.behind(6, 0, 5), 1, 6);
        // Nothing stands behind the end, ever.
        SmoothedGrams full = Setup.learned(EIGHT);
        Checks.due("behind the end", full.total(3, 0, 5) + full.total(2, 0, 5), 0);
        long bottom = full.bottom(0, 5, 0);
        full.order(1);
        Checks.due("it is not the raw count of level 1", full.bottom(0, 5, 0) != bottom, true);
    }

    /** "max(8 * c - e, 0)": c is 0, and c is 1 beside 8 eighths and beside 7. */
    private static void neverBelowZero() {
        SmoothedGrams x = Setup.learned("0");
        x.order(1);
        // c, n and t are 1, 2 and 2 for 0; c is 0 for 1.
        x.discount(1, 8);
        Checks.dueChance("1 by 8 eighths", x, Checks.behind(6, 6, 0), 1, 6);
        Checks.dueChance("0 by 8 eighths", x, Checks.behind(6, 6, 1), 1, 6);
        x.discount(1, 7);
        Checks.dueChance("1 by 7 eighths", x, Checks.behind(6, 6, 0), 5, 24);
        Checks.dueChance("0 by 7 eighths", x, Checks.behind(6, 6, 1), 7, 48);
        x.discount(1, 1);
        Checks.dueChance("1 by 1 eighth", x, Checks.behind(6, 6, 0), 11, 24);
        Checks.dueChance("0 by 1 eighth", x, Checks.behind(6, 6, 1), 1, 48);
        // c is 2 of 3, n is 2.
        Setup.learn(x, "");
        x.discount(1, 8);
        Checks.dueChance("2 by 8 eighths", x, Checks.behind(6, 6, 5), 4, 9);
    }

    /** "behind a b, b alone, or nothing, for the order 3, 2 or 1". */
    private static void behindAsManyAsTheOrderWants() {
        SmoothedGrams x = Setup.learned("01", "02", "10", "20", "2");
        boolean[][] wants = {{false, false}, {false, true}, {true, true}};
        for (int n = 1; n <= 3; n++) {
            x.order(n);
            boolean byA = differs(x, Checks.behind(6, 0, 1), Checks.behind(1, 0, 1));
            boolean byB = differs(x, Checks.behind(6, 0, 1), Checks.behind(6, 6, 1));
            Checks.due("a matters at order " + n, byA, wants[n - 1][0]);
            Checks.due("b matters at order " + n, byB, wants[n - 1][1]);
        }
    }

    private static boolean differs(SmoothedGrams x, int[] one, int[] two) {
        return x.top(one[0], one[1], one[2]) != x.top(two[0], two[1], two[2])
                || x.bottom(one[0], one[1], one[2]) != x.bottom(two[0], two[1], two[2]);
    }

    /** "It is told as a fraction in lowest terms." */
    private static void lowestTerms() {
        for (int n = 1; n <= 3; n++) {
            for (int e = 1; e <= 8; e++) {
                for (int a = 0; a <= 6; a += 3) {
                    SmoothedGrams x = Setup.learned("0123", "0012", "4", "", "0101", "44444444");
                    x.order(n);
                    x.discount(n, e);
                    for (int bw = 0; bw < 42; bw++) {
                        BigInteger top = BigInteger.valueOf(x.top(a, bw / 6, bw % 6));
                        BigInteger bottom = BigInteger.valueOf(x.bottom(a, bw / 6, bw % 6));
                        Checks.due("a common divisor", top.gcd(bottom).longValue(), 1);
                        Checks.due("a chance is above 0 and below 1", top.signum() > 0 && top.compareTo(bottom) < 0,
                                true);
                    }
                }
            }
        }
    }

    /** "and of the end behind the last one": of an empty sentence it is all there is. */
    private static void scoreHasTheEnd() {
        SmoothedGrams x = Setup.learned("0");
        Checks.dueScore("the end alone", x, x.top(6, 6, 5), x.bottom(6, 6, 5));
        x.word(0);
        Checks.dueScore("one word and the end", x, x.top(6, 6, 0) * x.top(6, 0, 5),
                x.bottom(6, 6, 0) * x.bottom(6, 0, 5));
        x.word(3);
        Checks.dueScore("two words and the end", x, x.top(6, 6, 0) * x.top(6, 0, 3) * x.top(0, 3, 5),
                x.bottom(6, 6, 0) * x.bottom(6, 0, 3) * x.bottom(0, 3, 5));
    }

    /** "the product .. of the chances of all its words": up to eight, and the end. */
    private static void scoreOfEightWords() {
        SmoothedGrams x = new SmoothedGrams();
        long bottom = 6;
        for (int i = 0; i < 8; i++) {
            Checks.dueScore("of " + i + " words without counts", x, 1, bottom);
            x.word(i % 5);
            bottom *= 6;
        }
        Checks.dueScore("of 8 words without counts", x, 1, bottom);
        x.word(0);
        Checks.dueScore("a ninth word is not in it", x, 1, bottom);
        x.erase();
        Checks.dueScore("nor are erased ones", x, 1, 6);
        SmoothedGrams full = Setup.learned(EIGHT);
        Setup.say(full, "01234012");
        int[] framed = {6, 6, 0, 1, 2, 3, 4, 0, 1, 2, 5};
        BigInteger top = BigInteger.ONE;
        BigInteger under = BigInteger.ONE;
        for (int i = 2; i < framed.length; i++) {
            top = top.multiply(BigInteger.valueOf(full.top(framed[i - 2], framed[i - 1], framed[i])));
            under = under.multiply(BigInteger.valueOf(full.bottom(framed[i - 2], framed[i - 1], framed[i])));
        }
        for (int i = 0; i < 12; i++) {
            Checks.due("top, part " + i, full.score(0, i), top.shiftRight(32 * i).intValue());
            Checks.due("bottom, part " + i, full.score(1, i), under.shiftRight(32 * i).intValue());
        }
    }

    /** "(these products are not in lowest terms)". */
    private static void scoreNotInLowestTerms() {
        SmoothedGrams x = Setup.learned("", "", "");
        x.order(1);
        x.discount(1, 8);
        x.word(0);
        // 1 / 18 times 13 / 18.
        Checks.dueScore("nothing to share", x, 13, 324);
        SmoothedGrams y = Setup.learned("", "", "", "", "");
        y.order(1);
        y.discount(1, 8);
        y.word(0);
        // 1 / 30 times 5 / 6.
        Checks.dueScore("5 over 180, not 1 over 36", y, 5, 180);
        y.word(0);
        Checks.dueScore("5 over 5400, not 1 over 1080", y, 5, 5400);
    }

    /** "the kept score is 1 over 1 at first": no score comes up to it, however likely. */
    private static void keptAtFirst() {
        Checks.due("a new object", new SmoothedGrams().against(), -1);
        SmoothedGrams x = new SmoothedGrams();
        for (int level = 1; level <= 3; level++) {
            x.discount(level, 1);
        }
        for (int i = 0; i < 8; i++) {
            Setup.learn(x, "");
            for (int n = 1; n <= 3; n++) {
                x.order(n);
                Checks.due("nearly 1", x.against(), -1);
            }
        }
        // 1 - 5 / (6 * 8 * 8 * 64).
        Checks.dueScore("it is nearly 1", x, 24571, 24576);
        x.keep();
        Checks.due("and what is kept then is no longer 1", x.against(), 0);
    }

    /** "A GRAM of level k is a row of k symbols whose count is above 0". */
    private static void gramsAreAboveZero() {
        SmoothedGrams x = new SmoothedGrams();
        for (int k = 1; k <= 3; k++) {
            Checks.due("no grams yet", x.grams(k), 0);
            Checks.due("no first one", x.gram(k, 0), NONE);
        }
        Setup.learn(x, "");
        int[] row = {5, 6 * 7 + 5, 6 * 49 + 6 * 7 + 5};
        for (int k = 1; k <= 3; k++) {
            Checks.due("one gram of level " + k, x.grams(k), 1);
            Checks.due("it is the end", x.gram(k, 0), row[k - 1]);
            Checks.due("there is no second one", x.gram(k, 1), NONE);
        }
        x.forget();
        for (int k = 1; k <= 3; k++) {
            Checks.due("none again", x.grams(k), 0);
        }
    }

    /** "grams are ordered by their first symbols, then by the second ones, and so on". */
    private static void gramsInOrder() {
        for (int n = 1; n <= 3; n++) {
            for (int k = 1; k <= n; k++) {
                SmoothedGrams x = Setup.learned("01234012", "43210432", "4", "", "30");
                x.order(n);
                int i = 0;
                for (int row = 0; row < 343; row++) {
                    boolean isRow = k == 3 || row < (k == 2 ? 49 : 7);
                    if (isRow && x.count(k, row / 49, row / 7 % 7, row % 7) > 0) {
                        Checks.due("gram " + i + " of level " + k + " at order " + n, x.gram(k, i), row);
                        i++;
                    }
                }
                Checks.due("how many of level " + k + " at order " + n, x.grams(k), i);
                Checks.due("behind the last one", x.gram(k, i), NONE);
            }
        }
    }
}
