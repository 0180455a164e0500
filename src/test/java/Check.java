/** Counts and prints what is not as due; a test ends with report(). */
final class Check {
    interface Call {
        int make();
    }

    private static int made = 0;
    private static int wrong = 0;

    private Check() {
    }

    static void same(String what, long got, long want) {
        made++;
        if (got != want) {
            fail(what + " answered " + got + ", due is " + want);
        }
    }

    /** Due is an exception of just that class, thrown by the program's own throw and not by the machine or the library. */
    static void refused(String what, Class<? extends RuntimeException> kind, Call call) {
        made++;
        try {
            int got = call.make();
            fail(what + " answered " + got + ", due is " + kind.getSimpleName());
        } catch (RuntimeException e) {
            if (e.getClass() != kind) {
                fail(what + " threw " + e.getClass().getSimpleName() + ", due is " + kind.getSimpleName());
            } else if (!isOwnThrow(e)) {
                fail(what + " let the machine or the library throw " + e);
            }
        }
    }

    static void alike(String what, String got, String want) {
        made++;
        if (!got.equals(want)) {
            fail(what + " answered " + got + ", due is " + want);
        }
    }

    /** What a call answers, or the name of what it throws. */
    static String answer(Call call) {
        try {
            return Integer.toString(call.make());
        } catch (RuntimeException e) {
            return "throws." + e.getClass().getSimpleName();
        }
    }

    static boolean isOwnThrow(RuntimeException e) {
        StackTraceElement[] trace = e.getStackTrace();
        return trace.length > 0 && trace[0].getClassName().startsWith("RainIndex");
    }

    static void fail(String text) {
        wrong++;
        if (wrong <= 50) {
            System.out.println(text);
        }
    }

    static void report(String test) {
        System.out.println(test + ": " + made + " checks, " + wrong + " wrong");
        if (wrong != 0) {
            System.exit(1);
        }
    }
}
