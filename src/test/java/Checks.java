/** What the tests share: it tells every answer that is not the one that is due. */
final class Checks {
    private static int wrong = 0;
    private static int looked = 0;

    private Checks() {
    }

    static void due(String what, long got, long want) {
        looked++;
        if (got != want) {
            wrong++;
            System.out.println(what + " answered " + got + ", due is " + want);
        }
    }

    static void due(String what, boolean got, boolean want) {
        due(what, got ? 1 : 0, want ? 1 : 0);
    }

    static int wrong() {
        return wrong;
    }

    static void end() {
        System.out.println(looked + " answers looked at, " + wrong + " of them wrong");
        if (wrong != 0 || looked == 0) {
            System.exit(1);
        }
    }
}
