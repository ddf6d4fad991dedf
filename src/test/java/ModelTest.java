import java.util.Random;

/** Many runs of calls, drawn from fixed seeds, each answer held against the plain model. */
public final class ModelTest {
    private static final int RUNS = 400;
    private static final int MOST_CALLS = 512;
    private static final int[] ODD = {-1, 7, 8, 9, -7, 49, Integer.MAX_VALUE, Integer.MIN_VALUE};

    private static final String[] WIDE = {"21212442", "00103312", "22041232", "20222222", "12222113", "32222240",
        "43234222", "22222222", "22222222"};

    private final Random random;
    private final int run;
    /** Some runs draw from few words, so that rows come again and counts grow. */
    private final int words;
    private final SmoothedGrams program = new SmoothedGrams();
    private final PlainModel model = new PlainModel();

    private ModelTest(int run) {
        this.run = run;
        random = new Random(run);
        words = 1 + run % 5;
    }

    public static void main(String[] args) {
        for (int run = 0; run < RUNS && Checks.wrong() == 0; run++) {
            new ModelTest(run).callAll();
        }
        new ModelTest(RUNS).callWide();
        Checks.end();
    }

    /** Sentences that were searched for, as the score of the last one is 162 over 169 bits long. */
    private void callWide() {
        int call = 0;
        for (int level = 1; level <= 3; level++) {
            int eighths = level == 3 ? 3 : 1;
            due(call++, "discount", program.discount(level, eighths) ? 1 : 0, model.discount(level, eighths) ? 1 : 0);
        }
        for (String sentence : WIDE) {
            for (char digit : sentence.toCharArray()) {
                due(call++, "word", program.word(digit - '0') ? 1 : 0, model.word(digit - '0') ? 1 : 0, digit - '0');
            }
            // The last one stays open, as there are eight before it.
            due(call++, "learn", program.learn(), model.learn());
        }
        boolean wide = false;
        for (int eighths = 1; eighths <= 8; eighths++) {
            program.keep();
            model.keep();
            due(call++, "against", program.against(), model.against());
            due(call++, "discount", program.discount(3, eighths) ? 1 : 0, model.discount(3, eighths) ? 1 : 0);
            due(call++, "against", program.against(), model.against());
            wide |= program.score(1, 5) != 0;
            for (int i = 0; i < 10; i++) {
                due(call++, "score", program.score(0, i), model.score(0, i), 0, i);
                due(call++, "score", program.score(1, i), model.score(1, i), 1, i);
            }
        }
        Checks.due("the score was wide", wide, true);
    }

    private void callAll() {
        for (int call = 0; call < MOST_CALLS; call++) {
            // Sentences are built more often at first, so that the asking has something to find.
            if (random.nextInt(MOST_CALLS) > call || random.nextInt(4) == 0) {
                change(call);
            } else {
                ask(call);
            }
        }
    }

    private void change(int call) {
        int draw = random.nextInt(60);
        if (draw < 45) {
            int w = random.nextInt(30) == 0 ? from(5) : random.nextInt(words);
            due(call, "word", program.word(w) ? 1 : 0, model.word(w) ? 1 : 0, w);
        } else if (draw < 52) {
            due(call, "learn", program.learn(), model.learn());
        } else if (draw < 54) {
            due(call, "forget", program.forget(), model.forget());
        } else if (draw < 55) {
            due(call, "erase", program.erase(), model.erase());
        } else if (draw < 56) {
            int n = from(4);
            due(call, "order", program.order(n) ? 1 : 0, model.order(n) ? 1 : 0, n);
        } else if (draw < 58) {
            int level = from(4);
            int eighths = from(10);
            due(call, "discount", program.discount(level, eighths) ? 1 : 0, model.discount(level, eighths) ? 1 : 0,
                    level, eighths);
        } else if (draw < 59) {
            program.keep();
            model.keep();
        } else {
            due(call, "against", program.against(), model.against());
        }
    }

    private void ask(int call) {
        int k = random.nextInt(10) == 0 ? from(5) : 1 + random.nextInt(3);
        int a = symbol();
        int b = symbol();
        int c = symbol();
        switch (random.nextInt(10)) {
            case 0 -> due(call, "count", program.count(k, a, b, c), model.count(k, a, b, c), k, a, b, c);
            case 1 -> due(call, "total", program.total(k, a, b), model.total(k, a, b), k, a, b);
            case 2 -> due(call, "kinds", program.kinds(k, a, b), model.kinds(k, a, b), k, a, b);
            case 3 -> due(call, "grams", program.grams(k), model.grams(k), k);
            case 4 -> {
                int i = from(40);
                due(call, "gram", program.gram(k, i), model.gram(k, i), k, i);
            }
            case 5 -> due(call, "top", program.top(a, b, c), model.top(a, b, c), a, b, c);
            case 6 -> due(call, "bottom", program.bottom(a, b, c), model.bottom(a, b, c), a, b, c);
            case 7 -> due(call, "likeliest", program.likeliest(a, b), model.likeliest(a, b), a, b);
            case 8 -> {
                int part = from(3);
                int i = from(10);
                due(call, "score", program.score(part, i), model.score(part, i), part, i);
            }
            default -> due(call, "against", program.against(), model.against());
        }
    }

    private int symbol() {
        return random.nextInt(20) == 0 ? from(8) : random.nextInt(3) == 0 ? random.nextInt(7) : random.nextInt(words);
    }

    /** From 0 to below the bound, and now and then something far out of it. */
    private int from(int bound) {
        return random.nextInt(12) == 0 ? ODD[random.nextInt(ODD.length)] : random.nextInt(bound);
    }

    private void due(int call, String name, long got, long want, int... with) {
        Checks.due("run " + run + ", call " + call + ": " + name + java.util.Arrays.toString(with), got, want);
    }
}
