/** Counts what is wrong, and ends a test with exit code 1 if anything was. */
final class Check {
    interface Call {
        void run();
    }

    private static int checked = 0;
    private static int wrong = 0;
    private static String part = "";

    private Check() {
    }

    /** What is wrong from here on is told with this name ahead of it. */
    static void begin(String name) {
        part = name.isEmpty() ? "" : name + ": ";
    }

    static void equal(String what, long got, long want) {
        checked++;
        if (got != want) {
            fail(what + " answered " + got + ", due is " + want);
        }
    }

    static void same(String what, double got, double want) {
        checked++;
        if (Double.doubleToLongBits(got) != Double.doubleToLongBits(want)) {
            fail(what + " answered " + got + ", due is " + want);
        }
    }

    static void holds(String what, boolean itDoes) {
        checked++;
        if (!itDoes) {
            fail(what);
        }
    }

    /** The call throws just this exception. */
    static void throwsJust(String what, Class<? extends RuntimeException> due, Call call) {
        checked++;
        try {
            call.run();
            fail(what + " threw nothing, due is " + due.getName());
        } catch (RuntimeException e) {
            if (e.getClass() != due) {
                fail(what + " threw " + e + ", due is " + due.getName());
            }
        }
    }

    /** The call throws just this exception, and leaves the object as it was. */
    static void refused(String what, LeastRows rows, Class<? extends RuntimeException> due, Call call) {
        long before = rows.digest();
        throwsJust(what, due, call);
        equal(what + ": digest behind the refused call", rows.digest(), before);
    }

    static void fail(String message) {
        wrong++;
        if (wrong <= 50) {
            System.out.println(part + message);
        }
    }

    static void end() {
        System.out.println(checked + " checks, " + wrong + " wrong");
        if (wrong != 0) {
            System.exit(1);
        }
    }
}
