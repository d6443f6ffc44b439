import java.util.function.BooleanSupplier;
import java.util.function.LongSupplier;

/** Counts the answers that are not as due, sentence by sentence, and ends a test by that count. */
final class Check {
    private String sentence = "";
    private int sentences = 0;
    private int answers = 0;
    private int answersOfSentence = 0;
    private int wrong = 0;

    /** Runs each of the tests, also behind one that a call has ended by an exception. */
    void each(Runnable... tests) {
        for (Runnable test : tests) {
            try {
                test.run();
            } catch (RuntimeException e) {
                complain("a call before it " + thrown(e.getClass()));
            }
        }
    }

    /** The words of the document that the answers from here on stand for. */
    void sentence(String words) {
        endSentence();
        sentence = words;
        sentences++;
    }

    void due(String call, long want, LongSupplier answer) {
        compare(call, Long.toString(want), outcome(answer));
    }

    void due(String call, boolean want, BooleanSupplier answer) {
        due(call, want ? 1 : 0, () -> answer.getAsBoolean() ? 1 : 0);
    }

    void refused(String call, Class<? extends RuntimeException> want, LongSupplier answer) {
        compare(call, thrown(want), outcome(answer));
    }

    void compare(String call, String want, String got) {
        answers++;
        answersOfSentence++;
        if (!got.equals(want)) {
            complain(call + " answered " + got + ", due is " + want);
        }
    }

    private void complain(String what) {
        wrong++;
        System.out.println("[" + sentence + "] " + what);
    }

    /** A sentence for which nothing was looked at has no test. */
    private void endSentence() {
        if (sentences > 0 && answersOfSentence == 0) {
            complain("no answer was looked at");
        }
        answersOfSentence = 0;
    }

    /** Any exception counts: a call may throw nothing but what the document names. */
    static String outcome(LongSupplier answer) {
        try {
            return Long.toString(answer.getAsLong());
        } catch (RuntimeException e) {
            return thrown(e.getClass());
        }
    }

    static String thrown(Class<? extends RuntimeException> exception) {
        return "throws." + exception.getSimpleName();
    }

    void finish() {
        endSentence();
        System.out.println(sentences + " sentences, " + answers + " answers looked at, " + wrong + " not as due");
        if (wrong != 0 || answers == 0) {
            System.exit(1);
        }
    }
}
