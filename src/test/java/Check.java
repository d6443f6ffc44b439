import java.util.function.BooleanSupplier;
import java.util.function.LongSupplier;

/** Counts the answers that are not as due and ends a test by that count. */
final class Check {
    private int calls = 0;
    private int wrong = 0;

    void due(String call, long want, LongSupplier answer) {
        compare(call, Long.toString(want), outcome(answer));
    }

    void due(String call, boolean want, BooleanSupplier answer) {
        due(call, want ? 1 : 0, () -> answer.getAsBoolean() ? 1 : 0);
    }

    void refused(String call, Class<? extends RuntimeException> want, LongSupplier answer) {
        compare(call, thrown(want), outcome(answer));
    }

    void compare(String call, String want, String got) {
        calls++;
        if (!got.equals(want)) {
            wrong++;
            System.out.println(call + " answered " + got + ", due is " + want);
        }
    }

    /** Any exception counts: a call may throw nothing but what the document names. */
    static String outcome(LongSupplier answer) {
        try {
            return Long.toString(answer.getAsLong());
        } catch (RuntimeException e) {
            return thrown(e.getClass());
        }
    }

    static String thrown(Class<? extends RuntimeException> exception) {
        return "throws." + exception.getSimpleName();
    }

    void finish() {
        System.out.println(calls + " answers looked at, " + wrong + " not as due");
        if (wrong != 0 || calls == 0) {
            System.exit(1);
        }
    }
}
