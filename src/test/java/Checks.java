/** Counts and prints the answers that are not the ones that are due. */
final class Checks {
    private static final int MOST_PRINTED = 40;

    private final String name;
    private String test;
    private int tests;
    private int done;
    private int doneBefore;
    private int wrong;

    Checks(String name) {
        this.name = name;
        this.test = name;
    }

    /** What follows is asked by the test of this name. */
    void begin(String test) {
        eachTestAsks();
        this.test = test;
        tests++;
    }

    void due(String call, long got, long want) {
        same(call, got, want);
    }

    void isTrue(String what, boolean got) {
        same(what, got, true);
    }

    void same(String what, Object got, Object want) {
        done++;
        if (!got.equals(want)) {
            isWrong(what + " answered " + got + ", due is " + want);
        }
    }

    private void isWrong(String what) {
        wrong++;
        if (wrong <= MOST_PRINTED) {
            System.out.println(test + ": " + what);
        }
    }

    private void eachTestAsks() {
        if (tests > 0 && done == doneBefore) {
            isWrong("asks nothing");
        }
        doneBefore = done;
    }

    /** Ends the program with 1 if one answer was wrong, or if there was none at all. */
    void end() {
        eachTestAsks();
        String howMany = tests > 0 ? tests + " tests, " : "";
        System.out.println(name + ": " + howMany + done + " answers, " + wrong + " wrong");
        if (wrong != 0 || done == 0) {
            System.exit(1);
        }
    }
}
