/** Compares answers with those that are due, and ends a test. */
final class Due {
    private static final int SHOWN = 40;
    private int asked;
    private int wrong;

    void is(int promise, String what, int got, int due) {
        asked++;
        if (got == due) {
            return;
        }
        wrong++;
        if (wrong <= SHOWN) {
            System.out.println("promise " + promise + ": " + what + " answered " + got
                + ", due is " + due);
        }
    }

    void holds(int promise, String what, boolean held) {
        is(promise, what, held ? 1 : 0, 1);
    }

    int wrongSoFar() {
        return wrong;
    }

    void end() {
        System.out.println(wrong == 0
            ? asked + " answers, all as due"
            : wrong + " of " + asked + " answers are not as due");
        if (wrong != 0) {
            System.exit(1);
        }
    }
}
