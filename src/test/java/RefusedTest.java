import java.util.ArrayList;
import java.util.LinkedHashMap;
import java.util.List;
import java.util.Map;
import java.util.function.ToLongFunction;

/**
 * "A call that is refused changes nothing." Each call that is refused, in each of several states, against
 * all that later calls show; and that a call which only asks changes nothing either.
 */
public final class RefusedTest {
    private static final int NONE = SmoothedGrams.NONE;
    private static final String[] EIGHT = {"01234012", "43210", "", "00000000", "1", "22", "333", "4444"};

    private record Call(String name, ToLongFunction<SmoothedGrams> made, long due) {
    }

    private final String state;
    private final Shown.Run run;
    private final Shown before;
    private final List<Call> calls = new ArrayList<>();

    private RefusedTest(String state, Shown.Run run) {
        this.state = state;
        this.run = run;
        before = Shown.after(run);
    }

    public static void main(String[] args) {
        states().forEach((state, run) -> new RefusedTest(state, run).lookAtAll());
        new RefusedTest("full", RefusedTest::full).onlyAsking();
        lookingFindsChanges();
        Checks.end();
    }

    private static Map<String, Shown.Run> states() {
        Map<String, Shown.Run> states = new LinkedHashMap<>();
        states.put("new", x -> { });
        states.put("no sentence, words open", RefusedTest::wordsOpen);
        states.put("no sentence, eight words open", RefusedTest::eightWordsOpen);
        for (int n = 1; n <= 3; n++) {
            int order = n;
            states.put("some sentences, order " + n, x -> some(x, order));
        }
        states.put("seven sentences, eight words open", RefusedTest::seven);
        states.put("full", RefusedTest::full);
        states.put("eight sentences, none open", x -> Setup.learn(x, EIGHT));
        return states;
    }

    private static void wordsOpen(SmoothedGrams x) {
        Setup.say(x, "0123");
        x.discount(1, 1);
        x.keep();
    }

    private static void eightWordsOpen(SmoothedGrams x) {
        Setup.say(x, "01234321");
        x.keep();
    }

    private static void some(SmoothedGrams x, int order) {
        Setup.learn(x, "01", "010", "", "4");
        Setup.say(x, "0104");
        x.discount(1, 3);
        x.discount(2, 5);
        x.discount(3, 7);
        x.order(order);
        x.keep();
    }

    private static void seven(SmoothedGrams x) {
        Setup.learn(x, "01234012", "43210", "", "00000000", "1", "22", "333");
        Setup.say(x, "44332211");
        x.keep();
    }

    private static void full(SmoothedGrams x) {
        Setup.learn(x, EIGHT);
        Setup.say(x, "01230123");
        x.discount(2, 1);
        x.keep();
    }

    private void lookAtAll() {
        refusedChanges();
        refusedCounts();
        refusedGrams();
        refusedChances();
        refusedByState();
        for (Call call : calls) {
            lookAt(call);
        }
    }

    private void lookAt(Call call) {
        SmoothedGrams x = new SmoothedGrams();
        run.on(x);
        String told = state + ": " + call.name;
        Checks.due(told, call.made.applyAsLong(x), call.due);
        Checks.due(told + " once more", call.made.applyAsLong(x), call.due);
        unchangedBy(told, call);
    }

    private void unchangedBy(String told, Call call) {
        Shown after = Shown.after(x -> {
            run.on(x);
            call.made.applyAsLong(x);
        });
        String difference = after.difference(before);
        Checks.due(told + " leaves all as it was (" + difference + ")", difference.isEmpty(), true);
    }

    private void refuse(String name, ToLongFunction<SmoothedGrams> made, long due) {
        calls.add(new Call(name, made, due));
    }

    private void refusedChanges() {
        for (int n : Setup.NO_LEVEL) {
            refuse("order(" + n + ")", x -> x.order(n) ? 1 : 0, 0);
            refuse("discount(" + n + ", 2)", x -> x.discount(n, 2) ? 1 : 0, 0);
        }
        for (int eighths : Setup.NO_EIGHTHS) {
            for (int level = 1; level <= 3; level++) {
                int at = level;
                refuse("discount(" + at + ", " + eighths + ")", x -> x.discount(at, eighths) ? 1 : 0, 0);
            }
            refuse("discount(0, " + eighths + ")", x -> x.discount(0, eighths) ? 1 : 0, 0);
            refuse("discount(4, " + eighths + ")", x -> x.discount(4, eighths) ? 1 : 0, 0);
        }
        for (int w : Setup.NOT_TO_SAY) {
            refuse("word(" + w + ")", x -> x.word(w) ? 1 : 0, 0);
        }
    }

    private void refusedCounts() {
        for (int k : Setup.NO_LEVEL) {
            refuse("count(" + k + ", 6, 6, 0)", x -> x.count(k, 6, 6, 0), 0);
            refuse("total(" + k + ", 6, 6)", x -> x.total(k, 6, 6), 0);
            refuse("kinds(" + k + ", 6, 6)", x -> x.kinds(k, 6, 6), 0);
        }
        for (int no : Setup.NO_SYMBOL) {
            refuse("count(3, " + no + ", 6, 0)", x -> x.count(3, no, 6, 0), 0);
            refuse("total(3, " + no + ", 6)", x -> x.total(3, no, 6), 0);
            refuse("kinds(3, " + no + ", 6)", x -> x.kinds(3, no, 6), 0);
            for (int level = 2; level <= 3; level++) {
                int k = level;
                refuse("count(" + k + ", 6, " + no + ", 0)", x -> x.count(k, 6, no, 0), 0);
                refuse("total(" + k + ", 6, " + no + ")", x -> x.total(k, 6, no), 0);
                refuse("kinds(" + k + ", 6, " + no + ")", x -> x.kinds(k, 6, no), 0);
            }
            for (int level = 1; level <= 3; level++) {
                int k = level;
                refuse("count(" + k + ", 6, 6, " + no + ")", x -> x.count(k, 6, 6, no), 0);
            }
        }
    }

    private void refusedGrams() {
        for (int k : Setup.NO_LEVEL) {
            refuse("grams(" + k + ")", x -> x.grams(k), NONE);
            refuse("gram(" + k + ", 0)", x -> x.gram(k, 0), NONE);
        }
        for (int level = 1; level <= 3; level++) {
            int k = level;
            for (int i : new int[] {Setup.LEAST, -1, 343, Setup.MOST}) {
                refuse("gram(" + k + ", " + i + ")", x -> x.gram(k, i), NONE);
            }
            refuse("gram(" + k + ", grams(" + k + "))", x -> x.gram(k, x.grams(k)), NONE);
        }
        for (int i : new int[] {Setup.LEAST, Setup.LEAST + 1, -32, -1}) {
            refuse("score(0, " + i + ")", x -> x.score(0, i), 0);
            refuse("score(1, " + i + ")", x -> x.score(1, i), 0);
        }
    }

    private void refusedChances() {
        for (int no : Setup.NO_WORD) {
            refuse("top(6, 6, " + no + ")", x -> x.top(6, 6, no), NONE);
            refuse("bottom(6, 6, " + no + ")", x -> x.bottom(6, 6, no), NONE);
        }
        for (int no : Setup.NO_SYMBOL) {
            refuse("top(" + no + ", 6, 0)", x -> x.top(no, 6, 0), NONE);
            refuse("top(6, " + no + ", 0)", x -> x.top(6, no, 0), NONE);
            refuse("bottom(" + no + ", 6, 0)", x -> x.bottom(no, 6, 0), NONE);
            refuse("bottom(6, " + no + ", 0)", x -> x.bottom(6, no, 0), NONE);
            refuse("likeliest(" + no + ", 6)", x -> x.likeliest(no, 6), NONE);
            refuse("likeliest(6, " + no + ")", x -> x.likeliest(6, no), NONE);
        }
    }

    private void refusedByState() {
        if (state.startsWith("new") || state.startsWith("no sentence")) {
            refuse("forget()", x -> x.forget(), NONE);
        }
        if (state.startsWith("full") || state.startsWith("eight sentences")) {
            refuse("learn()", x -> x.learn(), NONE);
        }
        if (state.startsWith("full") || state.endsWith("eight words open")) {
            for (int w = 0; w <= 4; w++) {
                int ninth = w;
                refuse("word(" + w + ") as a ninth one", x -> x.word(ninth) ? 1 : 0, 0);
            }
        }
    }

    private void onlyAsking() {
        List<Call> asking = List.of(
                new Call("count", x -> x.count(2, 0, 6, 0), 0),
                new Call("total", x -> x.total(3, 6, 6), 0),
                new Call("kinds", x -> x.kinds(1, 0, 0), 0),
                new Call("grams", x -> x.grams(3), 0),
                new Call("gram", x -> x.gram(3, 4), 0),
                new Call("top", x -> x.top(6, 6, 0), 0),
                new Call("bottom", x -> x.bottom(0, 1, 5), 0),
                new Call("likeliest", x -> x.likeliest(0, 0), 0),
                new Call("score of the top", x -> x.score(0, 0), 0),
                new Call("score of the bottom", x -> x.score(1, 1), 0),
                new Call("against", x -> x.against(), 0));
        for (Call call : asking) {
            unchangedBy("asking " + call.name, call);
        }
    }

    /** A change of any kind must be seen, or the looking above would say nothing. */
    private static void lookingFindsChanges() {
        RefusedTest some = new RefusedTest("some", x -> some(x, 2));
        some.changedBy("order", x -> x.order(3));
        for (int level = 1; level <= 3; level++) {
            int at = level;
            some.changedBy("discount of level " + level, x -> x.discount(at, 4));
        }
        some.changedBy("word", x -> x.word(2));
        some.changedBy("learn", SmoothedGrams::learn);
        some.changedBy("erase", SmoothedGrams::erase);
        some.changedBy("forget", SmoothedGrams::forget);
        some.changedBy("another word open", x -> {
            x.erase();
            Setup.say(x, "0103");
        });
        some.changedBy("another kept score", x -> {
            x.erase();
            x.keep();
            Setup.say(x, "0104");
        });
        some.changedBy("another last sentence", x -> {
            x.forget();
            x.erase();
            Setup.learn(x, "3");
            Setup.say(x, "0104");
        });
        RefusedTest fresh = new RefusedTest("new", x -> { });
        for (int level = 1; level <= 3; level++) {
            int at = level;
            fresh.changedBy("discount of level " + level + " of a new object", x -> x.discount(at, 4));
        }
        fresh.changedBy("keep of a new object", SmoothedGrams::keep);
    }

    private void changedBy(String told, Shown.Run change) {
        Shown after = Shown.after(x -> {
            run.on(x);
            change.on(x);
        });
        Checks.due(state + ": " + told + " is seen", !after.difference(before).isEmpty(), true);
    }
}
