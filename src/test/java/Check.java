/** Compares answers with those that are due, and counts and prints the wrong ones. */
final class Check {
    private static int wrong = 0;
    private static int checked = 0;
    private static String part = "";

    private Check() {
    }

    static void begin(String name) {
        part = name;
    }

    static void same(String what, long got, long due) {
        checked++;
        if (got != due) {
            report(what + " answered " + got + ", due is " + due);
        }
    }

    static void sameReal(String what, double got, double due) {
        checked++;
        if (got != due) {
            report(what + " answered " + got + ", due is " + due);
        }
    }

    static void truth(String what, boolean got, boolean due) {
        same(what, got ? 1 : 0, due ? 1 : 0);
    }

    /** The call has to throw just this class by a throw of the program's own, and to change nothing. */
    static void refused(String what, Kelirnight night, Class<? extends RuntimeException> due, Runnable call) {
        checked++;
        long before = night.digest();
        RuntimeException thrown = thrownBy(call);
        if (thrown == null) {
            report(what + " throws nothing, due is " + due.getSimpleName());
        } else if (thrown.getClass() != due) {
            report(what + " throws " + thrown + ", due is " + due.getSimpleName());
        } else if (!isOwnThrow(thrown)) {
            report(what + " lets the machine throw " + thrown);
        }
        if (night.digest() != before) {
            report(what + " throws and changes something");
        }
    }

    static RuntimeException thrownBy(Runnable call) {
        try {
            call.run();
            return null;
        } catch (RuntimeException e) {
            return e;
        }
    }

    static boolean isOwnThrow(RuntimeException thrown) {
        StackTraceElement[] trace = thrown.getStackTrace();
        return trace.length > 0 && trace[0].getClassName().startsWith("Kelirnight");
    }

    static void report(String line) {
        wrong++;
        System.out.println(part + ": " + line);
    }

    /** To be called last: the exit code tells whether all was as due. */
    static void end() {
        System.out.println(checked + " answers checked, " + wrong + " wrong");
        if (wrong != 0 || checked == 0) {
            System.exit(1);
        }
    }
}
