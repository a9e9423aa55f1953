/** Counts the answers that are not the ones that are due, and prints the first of them. */
final class Check {
    private static final int MOST_PRINTED = 20;

    private final String test;
    private int calls;
    private int wrong;

    Check(String test) {
        this.test = test;
    }

    void due(String call, long got, long want) {
        calls++;
        if (got != want) {
            tell(call + " answered " + got + ", due is " + want);
        }
    }

    void same(String what, Object got, Object want) {
        calls++;
        if (!got.equals(want)) {
            tell(what + " is " + got + ", due is " + want);
        }
    }

    void fail(String what) {
        calls++;
        tell(what);
    }

    private void tell(String what) {
        wrong++;
        if (wrong <= MOST_PRINTED) {
            System.out.println(test + ": " + what);
        }
    }

    boolean isWrong() {
        return wrong != 0;
    }

    /** The last call of a test: says how it went, and ends with 1 if it went wrong. */
    void end() {
        System.out.println(wrong == 0
                ? test + ": all " + calls + " answers are as due"
                : test + ": " + wrong + " of " + calls + " answers are not as due");
        if (wrong != 0) {
            System.exit(1);
        }
    }
}
