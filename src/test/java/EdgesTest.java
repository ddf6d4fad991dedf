import java.math.BigInteger;

/**
 * The sentences of the promises that name a boundary, each by itself and on both sides of it. That a
 * refused call changes nothing is looked at in RefusedTest.
 */
public final class EdgesTest {
    private static final int NONE = SmoothedGrams.NONE;
    private static final int LEAST = Setup.LEAST;
    private static final int MOST = Setup.MOST;
    private static final String[] EIGHT = {"01234012", "43210432", "00000000", "11111111", "22222222", "33333333",
        "44444444", "01010101"};
    /** They were searched for, as scores beside them have up to 169 bits. */
    private static final String[] WIDE = {"21212442", "00103312", "22041232", "20222222", "12222113", "32222240",
        "43234222", "22222222"};

    private EdgesTest() {
    }

    public static void main(String[] args) {
        newObject();
        orderFrom1To3();
        levelsFrom1To3();
        eighthsFrom1To8();
        wordsFrom0To4();
        wordsUpToEight();
        learnTellsHowMany();
        learnWhenThereWereEight();
        learnOpensAnEmptyOne();
        eraseTellsHowMany();
        eraseEmptiesTheOpenOne();
        forgetTakesTheLatest();
        forgetInPlaceOfTheOpenOne();
        forgetTellsHowManyWords();
        forgetWhenThereIsNone();
        countAtOneOfTheLevels();
        countLooksAsFarAsItWants();
        countOfNoSymbol();
        totalAndKindsAtOneOfTheLevels();
        totalAndKindsLookAsFarAsTheyWant();
        totalAndKindsOfNoSymbol();
        gramsAtOneOfTheLevels();
        gramFromZero();
        gramWhenThereIsNone();
        gramFirstSymbolHighest();
        chanceOfAWord();
        chanceBehindSymbols();
        likeliestIsTheGreatest();
        likeliestIsTheLeastOfSeveral();
        likeliestBehindSymbols();
        scoreOfAnyOtherPart();
        scoreBelowZero();
        scoreAboveItsBits();
        scoreAsAnInt();
        keepAsItIsNow();
        againstAsOneOfThree();
        againstAsAFraction();
        againstOfLongScores();
        Checks.end();
    }

    /** Promise 1: "Order 3, 6 eighths at each level, no sentences, the open one empty." */
    private static void newObject() {
        Checks.due("1: no sentences", new SmoothedGrams().forget(), NONE);
        Checks.due("1: the first one is the first", new SmoothedGrams().learn(), 1);
        Checks.due("1: the open one is empty", new SmoothedGrams().erase(), 0);
        SmoothedGrams first = Setup.learned("0");
        SmoothedGrams second = new SmoothedGrams();
        Checks.due("1: each object by itself", second.grams(1), 0);
        // Only with the order 3 and 6 eighths at each of its levels: 1 / 4, then 7 / 16, then 37 / 64.
        Checks.dueChance("1: order and eighths", first, Checks.behind(6, 6, 0), 37, 64);
    }

    /** Promise 2: "Answers true; false when n is not 1 .. 3." */
    private static void orderFrom1To3() {
        for (int n = 1; n <= 3; n++) {
            SmoothedGrams x = new SmoothedGrams();
            Checks.due("2: order " + n, x.order(n), true);
            Checks.due("2: the same once more", x.order(n), true);
            for (int no : Setup.NO_LEVEL) {
                Checks.due("2: order " + no, x.order(no), false);
            }
        }
    }

    /** Promise 3: "false when there is no such level": the order does not matter to that. */
    private static void levelsFrom1To3() {
        for (int n = 1; n <= 3; n++) {
            SmoothedGrams x = new SmoothedGrams();
            x.order(n);
            for (int level = 1; level <= 3; level++) {
                Checks.due("3: level " + level + " at order " + n, x.discount(level, 1), true);
            }
            for (int no : Setup.NO_LEVEL) {
                Checks.due("3: level " + no, x.discount(no, 1), false);
                Checks.due("3: level " + no + ", 8 eighths", x.discount(no, 8), false);
            }
        }
        // Level 3: (7 + p) / 8, as p is 7 / 16.
        SmoothedGrams y = Setup.learned("0");
        y.order(1);
        y.discount(3, 1);
        y.order(3);
        Checks.dueChance("3: a level above the order", y, Checks.behind(6, 6, 0), 119, 128);
    }

    /** Promise 3: "or they are not 1 .. 8". */
    private static void eighthsFrom1To8() {
        for (int level = 1; level <= 3; level++) {
            SmoothedGrams x = new SmoothedGrams();
            for (int e = 1; e <= 8; e++) {
                Checks.due("3: " + e + " eighths", x.discount(level, e), true);
            }
            for (int no : Setup.NO_EIGHTHS) {
                Checks.due("3: " + no + " eighths", x.discount(level, no), false);
            }
            Checks.due("3: neither is right", x.discount(0, 0) || x.discount(4, 9) || x.discount(LEAST, MOST), false);
        }
    }

    /** Promise 4: "false when it is not 0 .. 4". */
    private static void wordsFrom0To4() {
        for (int w = 0; w <= 4; w++) {
            SmoothedGrams x = new SmoothedGrams();
            Checks.due("4: word " + w, x.word(w), true);
            Checks.due("4: it is there", x.erase(), 1);
        }
        for (int no : Setup.NOT_TO_SAY) {
            SmoothedGrams x = new SmoothedGrams();
            Checks.due("4: word " + no, x.word(no), false);
            Checks.due("4: it is not there", x.erase(), 0);
        }
    }

    /** Promise 4: "or there are 8". */
    private static void wordsUpToEight() {
        for (int ninth = 0; ninth <= 4; ninth++) {
            SmoothedGrams x = new SmoothedGrams();
            for (int i = 0; i < 8; i++) {
                Checks.due("4: word number " + (i + 1), x.word((ninth + i) % 5), true);
            }
            Checks.due("4: word number 9", x.word(ninth), false);
            Checks.due("4: there are 8", x.erase(), 8);
            Checks.due("4: there is room again", x.word(ninth), true);
        }
        // A sentence that is open again has its words already.
        SmoothedGrams y = Setup.learned("0123401");
        y.forget();
        Checks.due("4: the eighth of a forgotten one", y.word(2), true);
        Checks.due("4: the ninth of a forgotten one", y.word(2), false);
        y.learn();
        Checks.due("4: put at the end", y.count(3, 0, 1, 2) + y.count(3, 1, 2, 5), 3);
    }

    /** Promise 5: "Answers how many sentences there are". */
    private static void learnTellsHowMany() {
        SmoothedGrams x = new SmoothedGrams();
        for (int i = 1; i <= 8; i++) {
            Checks.due("5: sentence " + i, x.learn(), i);
        }
        for (int i = 8; i >= 1; i--) {
            x.forget();
            Checks.due("5: once more", x.learn(), i);
            x.forget();
        }
    }

    /** Promise 5: "NONE when there were 8": and the open one stays, with its words. */
    private static void learnWhenThereWereEight() {
        SmoothedGrams x = Setup.learned(EIGHT);
        Checks.due("5: an empty ninth", x.learn(), NONE);
        Setup.say(x, "012");
        Checks.due("5: a ninth with words", x.learn(), NONE);
        Checks.due("5: it keeps its words", x.erase(), 3);
        Setup.say(x, "01234012");
        Checks.due("5: a full ninth", x.learn(), NONE);
        Checks.due("5: it keeps all of them", x.word(0), false);
        Checks.due("5: the eighth is the latest still", x.forget(), 8);
        Checks.due("5: when there are seven", x.learn(), 8);
        Checks.due("5: and again", x.learn(), NONE);
    }

    /** Promise 5: "a new one is open, empty". */
    private static void learnOpensAnEmptyOne() {
        SmoothedGrams x = new SmoothedGrams();
        for (int i = 0; i < 8; i++) {
            Setup.say(x, EIGHT[i]);
            x.learn();
            Checks.due("5: no words behind learn " + i, x.erase(), 0);
        }
        // A place where a longer sentence had stood is empty as well.
        for (int i = 0; i < 8; i++) {
            x.forget();
        }
        x.erase();
        for (int i = 1; i <= 8; i++) {
            Checks.due("5: nothing left over", x.learn(), i);
        }
        Checks.due("5: only ends", x.grams(3), 1);
    }

    /** Promise 6: "Answers how many words it had." */
    private static void eraseTellsHowMany() {
        for (int many = 0; many <= 8; many++) {
            SmoothedGrams x = new SmoothedGrams();
            Setup.say(x, "01234012".substring(0, many));
            Checks.due("6: " + many + " words", x.erase(), many);
            Checks.due("6: then none", x.erase(), 0);
        }
    }

    /** Promise 6: "The open sentence is empty.": it alone. */
    private static void eraseEmptiesTheOpenOne() {
        SmoothedGrams x = Setup.learned("01", "2");
        Setup.say(x, "3333");
        x.erase();
        Checks.dueScore("6: the score of nothing", x, x.top(6, 6, 5), x.bottom(6, 6, 5));
        Checks.due("6: the counts stay", x.grams(3), 5);
        Setup.say(x, "44");
        Checks.due("6: it is the third", x.learn(), 3);
        Checks.due("6: from the beginning", x.count(3, 6, 6, 4), 1);
        Checks.due("6: without what was erased", x.count(1, 0, 0, 3), 0);
        Checks.due("6: the sentences stay", x.forget() * 100 + x.forget() * 10 + x.forget(), 212);
    }

    /** Promise 7: "The latest sentence is taken back". */
    private static void forgetTakesTheLatest() {
        SmoothedGrams x = Setup.learned("0", "1", "2", "3", "4", "", "00", "11");
        int[] firsts = {0, 1, 2, 3, 4, 5, 0, 1};
        for (int i = 7; i >= 0; i--) {
            int had = x.count(3, 6, 6, firsts[i]);
            x.forget();
            Checks.due("7: sentence " + i + " is taken back", x.count(3, 6, 6, firsts[i]), had - 1);
            Checks.due("7: no other one", x.total(3, 6, 6), i);
        }
        Checks.due("7: no gram is left", x.grams(1) + x.grams(2) + x.grams(3), 0);
    }

    /** Promise 7: "and is the open one again, in place of that one". */
    private static void forgetInPlaceOfTheOpenOne() {
        SmoothedGrams x = Setup.learned("01");
        Setup.say(x, "22222222");
        x.forget();
        Checks.due("7: there is room behind it", x.word(3), true);
        Checks.due("7: learned again", x.learn(), 1);
        Checks.due("7: its words", x.count(3, 6, 0, 1) + x.count(3, 0, 1, 3) + x.count(3, 1, 3, 5), 3);
        Checks.due("7: not the words in place of which it came", x.count(1, 0, 0, 2), 0);
        SmoothedGrams y = Setup.learned("0", "1");
        y.forget();
        y.forget();
        Checks.due("7: only the last one that came back is open", y.erase(), 1);
        Checks.due("7: there is no other", y.forget(), NONE);
        SmoothedGrams z = Setup.learned("");
        Setup.say(z, "012");
        z.forget();
        Checks.due("7: an empty one in place of words", z.erase(), 0);
    }

    /** Promise 7: "Answers how many words it has": 0 is not NONE. */
    private static void forgetTellsHowManyWords() {
        for (int many = 0; many <= 8; many++) {
            SmoothedGrams x = Setup.learned("01234012".substring(0, many));
            Setup.say(x, "444");
            Checks.due("7: " + many + " words", x.forget(), many);
            Checks.due("7: they are open", x.erase(), many);
        }
    }

    /** Promise 7: "NONE when there is no sentence": the open one is none. */
    private static void forgetWhenThereIsNone() {
        SmoothedGrams x = new SmoothedGrams();
        Checks.due("7: none yet", x.forget(), NONE);
        Setup.say(x, "012");
        Checks.due("7: only an open one", x.forget(), NONE);
        Checks.due("7: it keeps its words", x.learn() * 10 + x.forget(), 13);
        Checks.due("7: none any more", x.forget(), NONE);
        Checks.due("7: it still keeps them", x.erase(), 3);
    }

    /** Promise 8: "0 when k is not 1 .. 3". */
    private static void countAtOneOfTheLevels() {
        SmoothedGrams x = Setup.learned("000");
        Checks.due("8: level 1", x.count(1, 0, 0, 0), 2);
        Checks.due("8: level 2", x.count(2, 0, 0, 0), 2);
        Checks.due("8: level 3", x.count(3, 0, 0, 0), 1);
        for (int no : Setup.NO_LEVEL) {
            Checks.due("8: level " + no, x.count(no, 0, 0, 0), 0);
        }
    }

    /** Promise 8: "(a, and b, are looked at as far as k wants)". */
    private static void countLooksAsFarAsItWants() {
        SmoothedGrams x = Setup.learned("000");
        for (int no : Setup.NO_SYMBOL) {
            Checks.due("8: level 1 does not look at a", x.count(1, no, 0, 0), 2);
            Checks.due("8: level 1 does not look at b", x.count(1, 0, no, 0), 2);
            Checks.due("8: level 1 looks at neither", x.count(1, no, no, 0), 2);
            Checks.due("8: level 2 does not look at a", x.count(2, no, 0, 0), 2);
            Checks.due("8: level 2 looks at b", x.count(2, 0, no, 0), 0);
            Checks.due("8: level 3 looks at a", x.count(3, no, 0, 0), 0);
            Checks.due("8: level 3 looks at b", x.count(3, 0, no, 0), 0);
        }
        Checks.due("8: level 2 is the same behind any a", x.count(2, 6, 0, 0), 2);
        Checks.due("8: level 3 is not", x.count(3, 6, 0, 0) * 10 + x.count(3, 5, 0, 0), 10);
    }

    /** Promise 8: "or one of these is no symbol": 0 and 6 are, -1 and 7 are not. */
    private static void countOfNoSymbol() {
        SmoothedGrams x = Setup.learned("000", "");
        Checks.due("8: 0 is a symbol", x.count(3, 0, 0, 0), 1);
        Checks.due("8: 6 is a symbol", x.count(3, 6, 6, 0), 1);
        Checks.due("8: 5 is a symbol", x.count(3, 6, 6, 5), 1);
        for (int no : Setup.NO_SYMBOL) {
            Checks.due("8: a is " + no, x.count(3, no, 0, 0) + x.count(3, no, 6, 0), 0);
            Checks.due("8: b is " + no, x.count(3, 6, no, 0) + x.count(2, 6, no, 0), 0);
            for (int k = 1; k <= 3; k++) {
                Checks.due("8: c is " + no, x.count(k, 6, 6, no), 0);
            }
        }
        // As digits to the base 7 these would be 0 0 0, 6 6 0, 6 0 0 and, at level 2, 6 0.
        int carried = x.count(3, 0, -1, 7) + x.count(3, 7, -1, 0) + x.count(3, 6, 5, 7) + x.count(3, 5, 7, 0);
        Checks.due("8: nothing is carried", carried + x.count(3, -1, 7, 0) + x.count(2, 0, 5, 7), 0);
    }

    /** Promises 9 and 10: "0 when k is not 1 .. 3". */
    private static void totalAndKindsAtOneOfTheLevels() {
        SmoothedGrams x = Setup.learned("00", "01");
        int[] totals = {5, 3, 2};
        int[] kinds = {3, 3, 2};
        for (int k = 1; k <= 3; k++) {
            Checks.due("9: level " + k, x.total(k, 6, 0), totals[k - 1]);
            Checks.due("10: level " + k, x.kinds(k, 6, 0), kinds[k - 1]);
        }
        for (int no : Setup.NO_LEVEL) {
            Checks.due("9: level " + no, x.total(no, 6, 0), 0);
            Checks.due("10: level " + no, x.kinds(no, 6, 0), 0);
        }
    }

    /** Promises 9 and 10: "(looked at as far as k wants)". */
    private static void totalAndKindsLookAsFarAsTheyWant() {
        SmoothedGrams x = Setup.learned("00", "01");
        for (int no : Setup.NO_SYMBOL) {
            Checks.due("9: level 1 looks at neither", x.total(1, no, no), 5);
            Checks.due("9: level 1, a alone", x.total(1, no, 0), 5);
            Checks.due("9: level 1, b alone", x.total(1, 0, no), 5);
            Checks.due("9: level 2 does not look at a", x.total(2, no, 0), 3);
            Checks.due("10: level 1 looks at neither", x.kinds(1, no, no), 3);
            Checks.due("10: level 1, a alone", x.kinds(1, no, 0), 3);
            Checks.due("10: level 1, b alone", x.kinds(1, 0, no), 3);
            Checks.due("10: level 2 does not look at a", x.kinds(2, no, 0), 3);
        }
    }

    /** Promises 9 and 10: "or one of these is no symbol". */
    private static void totalAndKindsOfNoSymbol() {
        SmoothedGrams x = Setup.learned("000", "");
        Checks.due("9: 0 and 6 are symbols", x.total(3, 0, 0) * 10 + x.total(3, 6, 6), 22);
        Checks.due("10: 0 and 6 are symbols", x.kinds(3, 0, 0) * 10 + x.kinds(3, 6, 6), 22);
        Checks.due("9: so is 5, which nothing is behind", x.total(3, 0, 5), 0);
        for (int no : Setup.NO_SYMBOL) {
            Checks.due("9: a is " + no, x.total(3, no, 0) + x.total(3, no, 6), 0);
            Checks.due("9: b is " + no, x.total(3, 6, no) + x.total(2, 6, no), 0);
            Checks.due("10: a is " + no, x.kinds(3, no, 0) + x.kinds(3, no, 6), 0);
            Checks.due("10: b is " + no, x.kinds(3, 6, no) + x.kinds(2, 6, no), 0);
        }
        // As digits to the base 7 these would be 6 0 and 0 0.
        Checks.due("9: nothing is carried", x.total(3, 5, 7) + x.total(3, 1, -7), 0);
        Checks.due("10: nothing is carried", x.kinds(3, 5, 7) + x.kinds(3, 1, -7), 0);
    }

    /** Promise 11: "NONE when k is not 1 .. 3": where there is a level without grams it is 0. */
    private static void gramsAtOneOfTheLevels() {
        SmoothedGrams x = Setup.learned("00", "01");
        int[] many = {3, 5, 5};
        for (int k = 1; k <= 3; k++) {
            Checks.due("11: level " + k, x.grams(k), many[k - 1]);
        }
        x.order(1);
        Checks.due("11: levels above the order", x.grams(2) + x.grams(3), 0);
        for (int n = 1; n <= 3; n++) {
            x.order(n);
            for (int no : Setup.NO_LEVEL) {
                Checks.due("11: level " + no, x.grams(no), NONE);
            }
        }
        Checks.due("11: of no sentences", new SmoothedGrams().grams(3), 0);
    }

    /** Promise 12: "Gram i (from 0) of level k". */
    private static void gramFromZero() {
        SmoothedGrams x = Setup.learned("00", "01");
        // 0 1 5; 00 01 05 15 60; 005 015 600 601 660.
        int[][] rows = {{0, 1, 5}, {0, 1, 5, 12, 42}, {5, 12, 294, 295, 336}};
        for (int k = 1; k <= 3; k++) {
            for (int i = 0; i < rows[k - 1].length; i++) {
                Checks.due("12: gram " + i + " of level " + k, x.gram(k, i), rows[k - 1][i]);
            }
        }
    }

    /** Promise 12: "NONE when there is none": no such gram, or no such level. */
    private static void gramWhenThereIsNone() {
        SmoothedGrams x = Setup.learned("00", "01");
        int[] many = {3, 5, 5};
        for (int k = 1; k <= 3; k++) {
            Checks.due("12: the last one", x.gram(k, many[k - 1] - 1) >= 0, true);
            for (int i : new int[] {LEAST, LEAST + 1, -many[k - 1], -1, many[k - 1], 7, 49, 343, 256, 65536, MOST}) {
                Checks.due("12: gram " + i + " of level " + k, x.gram(k, i), NONE);
            }
            Checks.due("12: of no sentences", new SmoothedGrams().gram(k, 0), NONE);
        }
        for (int no : Setup.NO_LEVEL) {
            for (int i : new int[] {LEAST, -1, 0, 1, MOST}) {
                Checks.due("12: gram " + i + " of level " + no, x.gram(no, i), NONE);
            }
        }
        x.order(2);
        Checks.due("12: above the order", x.gram(3, 0), NONE);
        Checks.due("12: at the order", x.gram(2, 0), 0);
    }

    /** Promise 12: "its symbols as the digits of a number to the base 7, the first one highest". */
    private static void gramFirstSymbolHighest() {
        SmoothedGrams x = Setup.learned("321");
        int[][] rows = {{1, 2, 3, 5}, {12, 15, 23, 45}, {110, 162, 317, 339}};
        for (int k = 1; k <= 3; k++) {
            for (int i = 0; i < 4; i++) {
                Checks.due("12: digits of " + i + " at level " + k, x.gram(k, i), rows[k - 1][i]);
            }
        }
        SmoothedGrams least = Setup.learned("000");
        Checks.due("12: the least row", least.gram(3, 0), 0);
        Checks.due("12: the greatest row", Setup.learned("").gram(3, 0), 341);
    }

    /** Promises 13 and 14: "NONE when it is no word (0 .. 5)". */
    private static void chanceOfAWord() {
        SmoothedGrams x = Setup.learned("0", "4");
        for (int n = 1; n <= 3; n++) {
            x.order(n);
            for (int w = 0; w <= 5; w++) {
                Checks.due("13: word " + w, x.top(6, 6, w) > 0, true);
                Checks.due("14: word " + w, x.bottom(6, 6, w) > 0, true);
            }
            for (int no : Setup.NO_WORD) {
                Checks.due("13: word " + no, x.top(6, 6, no), NONE);
                Checks.due("14: word " + no, x.bottom(6, 6, no), NONE);
            }
        }
    }

    /** Promises 13 and 14: "or one of these is no symbol (also when the order does not want them)". */
    private static void chanceBehindSymbols() {
        SmoothedGrams x = Setup.learned("0", "4");
        for (int n = 1; n <= 3; n++) {
            x.order(n);
            for (int s = 0; s <= 6; s++) {
                Checks.due("13: behind " + s, x.top(s, 0, 0) > 0 && x.top(0, s, 0) > 0, true);
                Checks.due("14: behind " + s, x.bottom(s, 0, 0) > 0 && x.bottom(0, s, 0) > 0, true);
            }
            for (int no : Setup.NO_SYMBOL) {
                Checks.dueChance("13: a is " + no, x, Checks.behind(no, 0, 0), NONE, NONE);
                Checks.dueChance("13: b is " + no, x, Checks.behind(0, no, 0), NONE, NONE);
            }
            Checks.dueChance("13: none is right", x, Checks.behind(7, -1, 6), NONE, NONE);
        }
    }

    /** Promise 15: "The word with the greatest chance": against all chances, behind all symbols. */
    private static void likeliestIsTheGreatest() {
        for (int n = 1; n <= 3; n++) {
            for (int ab = 0; ab < 49; ab++) {
                SmoothedGrams x = Setup.learned("0123", "3210", "1", "", "23", "4", "44", "3");
                x.order(n);
                int best = 0;
                for (int w = 1; w <= 5; w++) {
                    if (compare(x, ab, w, best) > 0) {
                        best = w;
                    }
                }
                Checks.due("15: behind " + ab / 7 + " " + ab % 7, x.likeliest(ab / 7, ab % 7), best);
            }
        }
    }

    private static int compare(SmoothedGrams x, int ab, int one, int two) {
        int a = ab / 7;
        int b = ab % 7;
        BigInteger left = BigInteger.valueOf(x.top(a, b, one)).multiply(BigInteger.valueOf(x.bottom(a, b, two)));
        BigInteger right = BigInteger.valueOf(x.top(a, b, two)).multiply(BigInteger.valueOf(x.bottom(a, b, one)));
        return left.compareTo(right);
    }

    /** Promise 15: "of several the least". */
    private static void likeliestIsTheLeastOfSeveral() {
        Checks.due("15: of all six", new SmoothedGrams().likeliest(6, 6), 0);
        for (int w = 0; w <= 4; w++) {
            for (int v = w + 1; v <= 4; v++) {
                SmoothedGrams x = Setup.learned("" + w, "" + v);
                Checks.due("15: of " + w + " and " + v, x.likeliest(6, 6), w);
                SmoothedGrams y = Setup.learned("" + v, "" + w);
                Checks.due("15: of " + v + " and " + w, y.likeliest(6, 6), w);
                Setup.learn(y, "" + v);
                Checks.due("15: when " + v + " is more", y.likeliest(6, 6), v);
            }
            // Raw, one word and one end are the same; one end more is not.
            SmoothedGrams z = Setup.learned("" + w);
            z.order(1);
            Checks.due("15: of " + w + " and the end", z.likeliest(0, 0), w);
            Setup.learn(z, "");
            Checks.due("15: when the end is more", z.likeliest(0, 0), 5);
            z.discount(1, 8);
            z.forget();
            Checks.due("15: of all when nothing is left of them", z.likeliest(0, 0), 0);
        }
    }

    /** Promise 15: "NONE when one of these is no symbol". */
    private static void likeliestBehindSymbols() {
        SmoothedGrams x = Setup.learned("0", "4");
        for (int n = 1; n <= 3; n++) {
            x.order(n);
            for (int s = 0; s <= 6; s++) {
                Checks.due("15: behind " + s, x.likeliest(s, 0) != NONE && x.likeliest(0, s) != NONE, true);
            }
            for (int no : Setup.NO_SYMBOL) {
                Checks.due("15: a is " + no, x.likeliest(no, 0), NONE);
                Checks.due("15: b is " + no, x.likeliest(0, no), NONE);
                Checks.due("15: both are " + no, x.likeliest(no, no), NONE);
            }
        }
    }

    /** Promise 16: "of the score's top (part 0), or bottom (any other part)". */
    private static void scoreOfAnyOtherPart() {
        SmoothedGrams x = Setup.learned("0");
        Checks.due("16: part 0", x.score(0, 0), 9);
        for (int part : new int[] {LEAST, LEAST + 1, -2, -1, 1, 2, 3, 256, 65536, MOST}) {
            Checks.due("16: part " + part, x.score(part, 0), 64);
        }
    }

    /** Promise 16: "0 when i is below 0". */
    private static void scoreBelowZero() {
        SmoothedGrams x = Setup.learned("0");
        for (int part : new int[] {LEAST, -1, 0, 1, MOST}) {
            Checks.due("16: i is 0", x.score(part, 0), part == 0 ? 9 : 64);
            // Times 32 the least int and -2^27 are 0 again.
            for (int i : new int[] {LEAST, LEAST + 1, -(1 << 27), 1 - (1 << 27), -32, -2, -1}) {
                Checks.due("16: i is " + i, x.score(part, i), 0);
            }
        }
    }

    /** Promise 16: "Bits 32 * i .. 32 * i + 31": above the highest bit there are none. */
    private static void scoreAboveItsBits() {
        SmoothedGrams x = new SmoothedGrams();
        Setup.say(x, "01234012");
        Checks.due("16: 6 to the ninth", x.score(1, 0), 10077696);
        for (int i : new int[] {1, 2, 8, 9, 10, 17, 18, 31, 32, 1 << 26, 1 << 27, (1 << 27) + 1, MOST - 1, MOST}) {
            Checks.due("16: top, i is " + i, x.score(0, i), 0);
            Checks.due("16: bottom, i is " + i, x.score(1, i), 0);
        }
        SmoothedGrams y = Setup.learned("", "", "", "", "");
        y.order(1);
        y.discount(1, 8);
        Setup.say(y, "012340");
        // 5 / 6 times 1 / 30 six times: its bottom has just more than 32 bits, 4374000000.
        Checks.due("16: the low bits", y.score(1, 0), (int) 4374000000L);
        Checks.due("16: the high bit", y.score(1, 1), 1);
        Checks.due("16: no higher one", y.score(1, 2), 0);
    }

    /** Promise 16: "as an int": the highest of the 32 bits makes it a number below 0. */
    private static void scoreAsAnInt() {
        // Seven sentences, 8 eighths: (56 - 8 + 8 / 6) / 56 = 37 / 42 and 1 / 42.
        SmoothedGrams x = Setup.learned("", "", "", "", "", "", "");
        x.order(1);
        x.discount(1, 8);
        Setup.say(x, "01234");
        // 42 to the sixth is 5489031744, or 2^32 and 1194064448.
        Checks.dueScore("16: above 32 bits", x, 37, 5489031744L);
        SmoothedGrams y = Setup.learned("", "", "", "", "", "");
        y.order(1);
        y.discount(1, 8);
        Setup.say(y, "01234");
        // Six sentences: 31 / 36 and 1 / 36; 36 to the sixth is 2176782336, between 2^31 and 2^32.
        Checks.dueScore("16: of 32 bits", y, 31, 2176782336L);
        Checks.due("16: below 0", y.score(1, 0), -2118184960);
        Checks.due("16: nothing above it", y.score(1, 1), 0);
    }

    /** Promise 17: "The score of the open sentence, as it is now, is the one that is kept." */
    private static void keepAsItIsNow() {
        SmoothedGrams x = Setup.learned("0");
        x.word(0);
        x.keep();
        Checks.due("17: the same", x.against(), 0);
        x.discount(3, 8);
        Checks.due("17: not by later eighths", x.against(), -1);
        x.discount(3, 6);
        x.order(1);
        Checks.due("17: not by a later order", x.against(), -1);
        x.order(3);
        Checks.due("17: the same again", x.against(), 0);
        x.learn();
        x.word(0);
        Checks.due("17: not by later sentences", x.against(), 1);
        x.keep();
        Checks.due("17: kept anew", x.against(), 0);
        x.forget();
        Checks.due("17: nor by forgotten ones", x.against(), -1);
        x.erase();
        x.keep();
        Checks.due("17: of an empty sentence", x.against(), 0);
    }

    /** Promise 18: "as -1, 0 or 1": however far they are from each other. */
    private static void againstAsOneOfThree() {
        SmoothedGrams x = Setup.learned("", "", "", "", "", "", "", "");
        for (int level = 1; level <= 3; level++) {
            x.discount(level, 1);
        }
        Checks.due("18: less than 1", x.against(), -1);
        Setup.say(x, "01234012");
        Checks.due("18: far less than 1", x.against(), -1);
        x.keep();
        Checks.due("18: the same", x.against(), 0);
        x.erase();
        Checks.due("18: far more", x.against(), 1);
        x.keep();
        Setup.say(x, "01234012");
        Checks.due("18: far less", x.against(), -1);
    }

    /** Promise 18: "as a fraction": 5 / 180 is 1 / 36. */
    private static void againstAsAFraction() {
        SmoothedGrams x = Setup.learned("", "", "", "", "");
        x.order(1);
        x.discount(1, 8);
        x.word(0);
        x.keep();
        for (int i = 0; i < 5; i++) {
            x.forget();
        }
        Checks.due("18: 1 / 6", x.against(), 1);
        x.word(0);
        Checks.dueScore("18: 1 / 36", x, 1, 36);
        Checks.due("18: the same, by other tops and bottoms", x.against(), 0);
        x.word(0);
        Checks.due("18: 1 / 216", x.against(), -1);
    }

    /** Promise 18: "is less than the kept one, the same, or more", also where both have many bits. */
    private static void againstOfLongScores() {
        int[][] eighths = {{1, 1, 3}, {1, 1, 4}, {1, 2, 3}, {2, 1, 3}, {7, 5, 3}, {7, 5, 2}};
        String[] open = {"22222222", "01234321", "", "4", "43210432"};
        int scores = eighths.length * open.length;
        int longest = 0;
        for (int ij = 0; ij < scores * scores; ij++) {
            int i = ij / scores;
            int j = ij % scores;
            SmoothedGrams x = Setup.learned(i % 2 == 0 ? WIDE : EIGHT);
            BigInteger[] one = brought(x, eighths[i / open.length], open[i % open.length]);
            x.keep();
            BigInteger[] two = brought(x, eighths[j / open.length], open[j % open.length]);
            BigInteger left = two[0].multiply(one[1]);
            BigInteger right = one[0].multiply(two[1]);
            longest = Math.max(longest, right.bitLength());
            Checks.due("18: score " + j + " against score " + i, x.against(), left.compareTo(right));
        }
        Checks.due("18: some were long", longest > 320, true);
    }

    private static BigInteger[] brought(SmoothedGrams x, int[] eighths, String open) {
        for (int level = 1; level <= 3; level++) {
            x.discount(level, eighths[level - 1]);
        }
        x.erase();
        Setup.say(x, open);
        return new BigInteger[] {whole(x, 0), whole(x, 1)};
    }

    private static BigInteger whole(SmoothedGrams x, int part) {
        BigInteger sum = BigInteger.ZERO;
        for (int i = 0; i < 12; i++) {
            BigInteger bits = BigInteger.valueOf(x.score(part, i) & 0xFFFFFFFFL);
            sum = sum.add(bits.shiftLeft(32 * i));
        }
        return sum;
    }
}
