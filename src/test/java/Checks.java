/** Counts answers that are not as due, and tells each of them. */
final class Checks {
    private int made = 0;
    private int wrong = 0;

    void due(String what, long got, long want) {
        made++;
        if (got != want) {
            wrong++;
            System.out.println(what + " answered " + got + ", due is " + want);
        }
    }

    void holds(String what, boolean holds) {
        made++;
        if (!holds) {
            wrong++;
            System.out.println(what + " does not hold");
        }
    }

    boolean anyWrong() {
        return wrong > 0;
    }

    /** Ends the program with exit code 1 if anything was wrong. */
    void end(String name) {
        System.out.println(name + ": " + made + " checks, " + wrong + " wrong");
        if (wrong > 0 || made == 0) {
            System.exit(1);
        }
    }
}
