import java.util.List;
import java.util.function.Consumer;
import java.util.function.ObjIntConsumer;
import java.util.function.Supplier;

/** Compares answers with those that are due, and counts and prints the wrong ones. */
final class Check {
    private static int wrong = 0;
    private static int checked = 0;
    private static String part = "";

    private Check() {
    }

    static void begin(String name) {
        part = name;
    }

    static void same(String what, long got, long due) {
        checked++;
        if (got != due) {
            report(what + " answered " + got + ", due is " + due);
        }
    }

    static void sameReal(String what, double got, double due) {
        checked++;
        if (got != due) {
            report(what + " answered " + got + ", due is " + due);
        }
    }

    static void truth(String what, boolean got, boolean due) {
        same(what, got ? 1 : 0, due ? 1 : 0);
    }

    /** The call has to throw just this class by a throw of the program's own, and to change nothing. */
    static void refused(String what, Kelirnight night, Class<? extends RuntimeException> due, Runnable call) {
        checked++;
        long before = night.digest();
        RuntimeException thrown = thrownBy(call);
        if (thrown == null) {
            report(what + " throws nothing, due is " + due.getSimpleName());
        } else if (thrown.getClass() != due) {
            report(what + " throws " + thrown + ", due is " + due.getSimpleName());
        } else if (!isOwnThrow(thrown)) {
            report(what + " lets the machine throw " + thrown);
        }
        if (night.digest() != before) {
            report(what + " throws and changes something");
        }
    }

    /**
     * The call on a night that is made for it has to throw just this class, and that night has to answer a long
     * run of calls from there on as one that was made alike and never had the call.
     */
    static void refusal(String what, Class<? extends RuntimeException> due, Supplier<Kelirnight> made,
            Consumer<Kelirnight> call) {
        Kelirnight night = made.get();
        refused(what, night, due, () -> call.accept(night));
        checked++;
        List<String> got = Probe.of(night);
        List<String> want = Probe.of(made.get());
        for (int k = 0; k < want.size(); k++) {
            if (!got.get(k).equals(want.get(k))) {
                report(what + " changes something: then " + got.get(k) + ", without it " + want.get(k));
                return;
            }
        }
    }

    /** The call on a night that is made for it has to be taken. */
    static void taken(String what, Supplier<Kelirnight> made, Consumer<Kelirnight> call) {
        checked++;
        Kelirnight night = made.get();
        RuntimeException thrown = thrownBy(() -> call.accept(night));
        if (thrown != null) {
            report(what + " throws " + thrown);
        }
    }

    /** All numbers from the least to the most have to be taken, those below and above refused. */
    static void range(String what, int least, int most, Class<? extends RuntimeException> due,
            Supplier<Kelirnight> made, ObjIntConsumer<Kelirnight> call) {
        for (int value = least; value <= most; value++) {
            int now = value;
            taken(what + " " + now, made, night -> call.accept(night, now));
        }
        int[] wrongOnes = {least - 1, most + 1, least - 32, most + 32, Integer.MIN_VALUE, Integer.MAX_VALUE};
        for (int value : wrongOnes) {
            int now = value;
            refusal(what + " " + now, due, made, night -> call.accept(night, now));
        }
    }

    /** A night that has so many things refuses a call on one that it does not have. */
    static void noSuch(String what, int count, Supplier<Kelirnight> made, ObjIntConsumer<Kelirnight> call) {
        int[] wrongOnes = {-1, -2, count, count + 1, count + 32, Integer.MIN_VALUE, Integer.MAX_VALUE};
        for (int value : wrongOnes) {
            int now = value;
            refusal(what + " " + now + " of " + count, IndexOutOfBoundsException.class, made,
                    night -> call.accept(night, now));
        }
    }

    static RuntimeException thrownBy(Runnable call) {
        try {
            call.run();
            return null;
        } catch (RuntimeException e) {
            return e;
        }
    }

    static boolean isOwnThrow(RuntimeException thrown) {
        StackTraceElement[] trace = thrown.getStackTrace();
        return trace.length > 0 && trace[0].getClassName().startsWith("Kelirnight");
    }

    static void report(String line) {
        wrong++;
        System.out.println(part + ": " + line);
    }

    /** To be called last: the exit code tells whether all was as due. */
    static void end() {
        System.out.println(checked + " answers checked, " + wrong + " wrong");
        if (wrong != 0 || checked == 0) {
            System.exit(1);
        }
    }
}
