/** Counts the answers that are not as due, and ends a test's main method. */
final class Check {
    interface Call {
        long answer();
    }

    private static final int MOST_SHOWN = 40;

    private final String test;
    private int looked = 0;
    private int wrong = 0;

    Check(String test) {
        this.test = test;
    }

    void same(String what, long got, long due) {
        looked++;
        if (got != due) {
            tell(what + " answered " + got + ", due is " + due);
        }
    }

    void same(String what, boolean got, boolean due) {
        same(what, got ? 1 : 0, due ? 1 : 0);
    }

    void yes(String what, boolean holds) {
        looked++;
        if (!holds) {
            tell(what);
        }
    }

    /** The call throws exactly this class, no class below or above it. */
    void raises(String what, Class<? extends RuntimeException> due, Call call) {
        looked++;
        try {
            long got = call.answer();
            tell(what + " answered " + got + ", due is " + due.getSimpleName());
        } catch (RuntimeException e) {
            if (e.getClass() != due) {
                tell(what + " threw " + e + ", due is " + due.getSimpleName());
            }
        }
    }

    int wrong() {
        return wrong;
    }

    private void tell(String text) {
        wrong++;
        if (wrong <= MOST_SHOWN) {
            System.out.println(test + ": " + text);
        }
    }

    void end() {
        System.out.println(test + ": " + looked + " looked at, " + wrong + " wrong");
        if (wrong != 0 || looked == 0) {
            System.exit(1);
        }
    }
}
