/** Counts a test's answers that are not as due, and tells the first of them under the test's name. */
final class Check {
    interface Call {
        long answer();
    }

    private static final int MOST_SHOWN = 10;

    private final String test;
    private int looked = 0;
    private int wrong = 0;

    Check(String test) {
        this.test = test;
    }

    void same(String what, long got, long due) {
        looked++;
        if (got != due) {
            tell(what + " answered " + got + ", due is " + due);
        }
    }

    void same(String what, boolean got, boolean due) {
        looked++;
        if (got != due) {
            tell(what + " answered " + got + ", due is " + due);
        }
    }

    void yes(String what, boolean holds) {
        looked++;
        if (!holds) {
            tell(what);
        }
    }

    /** The call throws exactly this class, no class below or above it. */
    void raises(String what, Class<? extends RuntimeException> due, Call call) {
        looked++;
        try {
            long got = call.answer();
            tell(what + " answered " + got + ", due is " + due.getSimpleName());
        } catch (RuntimeException e) {
            if (e.getClass() != due) {
                tell(what + " threw " + e + ", due is " + due.getSimpleName());
            }
        }
    }

    int looked() {
        return looked;
    }

    int wrong() {
        return wrong;
    }

    private void tell(String text) {
        wrong++;
        if (wrong <= MOST_SHOWN) {
            System.out.println(test + ": " + text);
        }
    }
}
