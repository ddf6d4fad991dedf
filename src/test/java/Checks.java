/** What the tests share: it tells every answer that is not the one that is due. */
final class Checks {
    private static int wrong = 0;
    private static int looked = 0;

    private Checks() {
    }

    static void due(String what, long got, long want) {
        looked++;
        if (got != want) {
            wrong++;
            System.out.println(what + " answered " + got + ", due is " + want);
        }
    }

    static void due(String what, boolean got, boolean want) {
        due(what, got ? 1 : 0, want ? 1 : 0);
    }

    /** The chance of the last of the symbols behind the two before it. */
    static void dueChance(String what, SmoothedGrams x, int[] asked, long top, long bottom) {
        due(what + ", top", x.top(asked[0], asked[1], asked[2]), top);
        due(what + ", bottom", x.bottom(asked[0], asked[1], asked[2]), bottom);
    }

    static int[] behind(int a, int b, int w) {
        return new int[] {a, b, w};
    }

    /** A score that is below 2^63. */
    static void dueScore(String what, SmoothedGrams x, long top, long bottom) {
        for (int i = 0; i < 3; i++) {
            due(what + ", top, part " + i, x.score(0, i), i < 2 ? (int) (top >>> 32 * i) : 0);
            due(what + ", bottom, part " + i, x.score(1, i), i < 2 ? (int) (bottom >>> 32 * i) : 0);
        }
    }

    static int wrong() {
        return wrong;
    }

    static void end() {
        System.out.println(looked + " answers looked at, " + wrong + " of them wrong");
        if (wrong != 0 || looked == 0) {
            System.exit(1);
        }
    }
}
