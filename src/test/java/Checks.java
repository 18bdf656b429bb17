import java.util.List;

/** Counts the answers of one test that are not as due, and tells of each. */
final class Checks {
    private static final int MOST_TOLD = 50;

    private final String name;
    private String sentence = "";
    private int made;
    private int wrong;

    Checks(String name) {
        this.name = name;
    }

    /** The sentence of the document that the checks from here on are about. */
    void of(String where, String words) {
        sentence = where + " '" + words + "': ";
    }

    void due(String call, long got, long want) {
        made++;
        if (got != want) {
            fail(call + " answered " + got + ", due is " + want);
        }
    }

    void due(String call, boolean got, boolean want) {
        due(call, got ? 1 : 0, want ? 1 : 0);
    }

    /** Two rows of answers of Whole: the first difference is told. */
    void same(String what, List<String> got, List<String> want) {
        made++;
        if (got.equals(want)) {
            return;
        }
        int at = 0;
        while (at < got.size() && at < want.size() && got.get(at).equals(want.get(at))) {
            at++;
        }
        String gotRow = at < got.size() ? got.get(at) : "nothing more";
        String wantRow = at < want.size() ? want.get(at) : "nothing more";
        fail(what + ": " + gotRow + ", due is " + wantRow);
    }

    void fail(String what) {
        wrong++;
        if (wrong <= MOST_TOLD) {
            System.out.println(name + ": " + sentence + what);
        }
    }

    /** Ends the program with exit code 1 if an answer was not as due. */
    void end() {
        System.out.println(name + ": " + made + " answers, " + wrong + " not as due");
        if (wrong != 0) {
            System.exit(1);
        }
    }
}
