/** Counts the checks of the tests, and tells of those that fail. */
final class Check {
    /** A call that may throw. */
    interface Call {
        void run();
    }

    private static int passed = 0;
    private static int failed = 0;

    private Check() {
    }

    static void due(String what, long got, long want) {
        note(got == want, what + " answered " + got + ", due is " + want);
    }

    static void due(String what, boolean got, boolean want) {
        note(got == want, what + " answered " + got + ", due is " + want);
    }

    static void due(String what, String got, String want) {
        note(got.equals(want), what + " answered\n  " + got + "\ndue is\n  " + want);
    }

    /** The call must throw an exception of just this class. */
    static void refuses(String what, Class<? extends RuntimeException> want, Call call) {
        Class<?> got = thrownBy(call);
        note(got == want, what + " threw " + (got == null ? "nothing" : got.getName()) + ", due is " + want.getName());
    }

    /** The call must throw an exception of just this class, and leave all that the clock tells as it was. */
    static void refuses(String what, Class<? extends RuntimeException> want, BrownClock clock, Call call) {
        String before = View.of(clock);
        refuses(what, want, call);
        due(what + " is refused and leaves the clock, which", View.of(clock), before);
    }

    static int failures() {
        return failed;
    }

    static String summary() {
        return passed + " checks as due, " + failed + " not";
    }

    static Class<?> thrownBy(Call call) {
        try {
            call.run();
            return null;
        } catch (RuntimeException e) {
            return e.getClass();
        }
    }

    private static void note(boolean good, String fault) {
        if (good) {
            passed++;
            return;
        }
        failed++;
        if (failed <= 50) {
            System.out.println(fault);
        }
    }
}
