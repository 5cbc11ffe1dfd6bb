/** Counts the answers that are not the ones that are due, for all tests of the project. */
final class Due {
    private static final int MOST_TOLD = 40;
    private static int wrong = 0;
    private static int asked = 0;

    private Due() {
    }

    static void is(String what, int got, int want) {
        asked++;
        if (got != want) {
            wrong++;
            if (wrong <= MOST_TOLD) {
                System.out.println(what + " answered " + got + ", due is " + want);
            }
        }
    }

    static int wrong() {
        return wrong;
    }

    static void end() {
        System.out.println(asked + " answers, " + wrong + " of them wrong");
        if (wrong != 0) {
            System.exit(1);
        }
    }
}
