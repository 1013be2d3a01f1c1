/** Counts and prints the answers that are not the ones that are due. */
final class Checks {
    private static final int MOST_PRINTED = 40;

    private final String name;
    private int done;
    private int wrong;

    Checks(String name) {
        this.name = name;
    }

    void due(String call, long got, long want) {
        same(call, got, want);
    }

    void isTrue(String what, boolean got) {
        same(what, got, true);
    }

    void same(String what, Object got, Object want) {
        done++;
        if (!got.equals(want)) {
            wrong++;
            if (wrong <= MOST_PRINTED) {
                System.out.println(name + ": " + what + " answered " + got + ", due is " + want);
            }
        }
    }

    /** Ends the program with 1 if one answer was wrong, or if there was none at all. */
    void end() {
        System.out.println(name + ": " + done + " answers, " + wrong + " wrong");
        if (wrong != 0 || done == 0) {
            System.exit(1);
        }
    }
}
