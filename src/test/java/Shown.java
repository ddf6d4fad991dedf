import java.util.ArrayList;
import java.util.List;

/**
 * All that later calls show of an object. Each group of questions has a new object of its own, brought
 * to the state by the same run of calls, as an object is only used for 512 calls: a run may have some
 * 100 of them, a group has at most 400.
 */
final class Shown {
    private static final int MOST_SENTENCES = 8;
    private static final int MOST_WORDS = 8;
    private static final int PARTS = 10;

    /** A run of calls on a new object. */
    interface Run {
        void on(SmoothedGrams x);
    }

    private final List<String> groups = new ArrayList<>();
    private final List<long[]> answers = new ArrayList<>();
    private long[] now;
    private int size;

    private Shown() {
    }

    static Shown after(Run run) {
        Shown all = new Shown();
        all.group("counts", run, all::counts);
        all.group("contexts", run, all::contexts);
        all.group("grams", run, all::grams);
        all.group("tops", run, all::tops);
        all.group("bottoms", run, all::bottoms);
        all.group("score", run, all::score);
        all.group("orders", run, all::orders);
        all.group("erased", run, x -> all.add(x.erase()));
        all.group("room", run, all::room);
        all.group("learned", run, all::learned);
        all.group("discounts", run, all::discounts);
        all.group("kept", run, all::kept);
        for (int times = 1; times <= MOST_SENTENCES + 1; times++) {
            int many = times;
            all.group("forgotten " + times, run, x -> all.forgotten(x, many));
        }
        return all;
    }

    /** Where the two differ; an empty text if they do not. */
    String difference(Shown other) {
        for (int i = 0; i < groups.size(); i++) {
            long[] mine = answers.get(i);
            long[] theirs = other.answers.get(i);
            for (int j = 0; j < Math.max(mine.length, theirs.length); j++) {
                if (j >= mine.length || j >= theirs.length || mine[j] != theirs[j]) {
                    return groups.get(i) + ", answer " + j;
                }
            }
        }
        return "";
    }

    private void group(String name, Run run, Run questions) {
        SmoothedGrams x = new SmoothedGrams();
        run.on(x);
        now = new long[512];
        size = 0;
        questions.on(x);
        groups.add(name);
        answers.add(java.util.Arrays.copyOf(now, size));
    }

    private void add(long answer) {
        now[size++] = answer;
    }

    private void add(boolean answer) {
        add(answer ? 1 : 0);
    }

    private void counts(SmoothedGrams x) {
        for (int c = 0; c <= 6; c++) {
            add(x.count(1, 0, 0, c));
            for (int b = 0; b <= 6; b++) {
                add(x.count(2, 0, b, c));
                for (int a = 0; a <= 6; a++) {
                    add(x.count(3, a, b, c));
                }
            }
        }
    }

    private void contexts(SmoothedGrams x) {
        add(x.total(1, 0, 0));
        add(x.kinds(1, 0, 0));
        for (int b = 0; b <= 6; b++) {
            add(x.total(2, 0, b));
            add(x.kinds(2, 0, b));
            for (int a = 0; a <= 6; a++) {
                add(x.total(3, a, b));
                add(x.kinds(3, a, b));
                add(x.likeliest(a, b));
            }
        }
    }

    private void grams(SmoothedGrams x) {
        for (int k = 1; k <= 3; k++) {
            int many = x.grams(k);
            add(many);
            for (int i = 0; i <= many; i++) {
                add(x.gram(k, i));
            }
        }
    }

    private void tops(SmoothedGrams x) {
        for (int ab = 0; ab < 49; ab++) {
            for (int w = 0; w <= 5; w++) {
                add(x.top(ab / 7, ab % 7, w));
            }
        }
    }

    private void bottoms(SmoothedGrams x) {
        for (int ab = 0; ab < 49; ab++) {
            for (int w = 0; w <= 5; w++) {
                add(x.bottom(ab / 7, ab % 7, w));
            }
        }
    }

    private void score(SmoothedGrams x) {
        for (int i = 0; i < PARTS; i++) {
            add(x.score(0, i));
            add(x.score(1, i));
        }
        add(x.against());
    }

    private void orders(SmoothedGrams x) {
        for (int n = 1; n <= 3; n++) {
            add(x.order(n));
            firstWords(x);
            score(x);
        }
    }

    private void firstWords(SmoothedGrams x) {
        for (int w = 0; w <= 5; w++) {
            add(x.top(6, 6, w));
            add(x.bottom(6, 6, w));
        }
    }

    private void room(SmoothedGrams x) {
        for (int i = 0; i <= MOST_WORDS; i++) {
            add(x.word(0));
        }
    }

    private void learned(SmoothedGrams x) {
        add(x.learn());
        add(x.order(3));
        counts(x);
    }

    /** They only show where something has been learned. */
    private void discounts(SmoothedGrams x) {
        add(x.forget());
        add(x.erase());
        add(x.word(0));
        add(x.learn());
        for (int n = 1; n <= 3; n++) {
            add(x.order(n));
            firstWords(x);
        }
    }

    /** The kept score beside those of 1 / 6 for each word, which need no sentence. */
    private void kept(SmoothedGrams x) {
        for (int i = 0; i <= MOST_SENTENCES; i++) {
            add(x.forget());
        }
        add(x.erase());
        for (int i = 0; i <= MOST_WORDS; i++) {
            add(x.against());
            add(x.word(i % 5));
        }
    }

    private void forgotten(SmoothedGrams x, int times) {
        for (int i = 0; i < times; i++) {
            add(x.forget());
        }
        add(x.order(3));
        for (int abc = 0; abc < 343; abc++) {
            add(x.count(3, abc / 49, abc / 7 % 7, abc % 7));
        }
        score(x);
    }
}
