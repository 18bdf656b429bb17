/** Counts the answers of one test that are not as due, and tells of each. */
final class Checks {
    private static final int MOST_TOLD = 50;

    private final String name;
    private int made;
    private int wrong;

    Checks(String name) {
        this.name = name;
    }

    void due(String call, long got, long want) {
        made++;
        if (got != want) {
            fail(call + " answered " + got + ", due is " + want);
        }
    }

    void due(String call, boolean got, boolean want) {
        due(call, got ? 1 : 0, want ? 1 : 0);
    }

    void fail(String what) {
        wrong++;
        if (wrong <= MOST_TOLD) {
            System.out.println(name + ": " + what);
        }
    }

    /** Ends the program with exit code 1 if an answer was not as due. */
    void end() {
        System.out.println(name + ": " + made + " answers, " + wrong + " not as due");
        if (wrong != 0) {
            System.exit(1);
        }
    }
}
