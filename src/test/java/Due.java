/** Compares answers with those that are due, and counts the wrong ones. */
final class Due {
    private final String test;
    private int answers;
    private int wrong;

    Due(String test) {
        this.test = test;
    }

    void is(String call, long got, long want) {
        answers++;
        if (got != want) {
            wrong++;
            if (wrong <= 50) {
                System.out.println(test + ": " + call + " answered " + got + ", due is " + want);
            }
        }
    }

    void holds(String what, boolean so) {
        answers++;
        if (!so) {
            wrong++;
            System.out.println(test + ": it does not hold that " + what);
        }
    }

    int wrong() {
        return wrong;
    }

    /** Ends the test: with exit code 1 if an answer was wrong. */
    void end() {
        System.out.println(test + ": " + answers + " answers, " + wrong + " wrong");
        if (wrong != 0) {
            System.exit(1);
        }
    }
}
