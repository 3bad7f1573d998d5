import java.util.function.LongSupplier;

/** What all tests use: counts the answers that are not due, and ends with exit code 1 if any. */
final class Check {
    static final long ARGUMENT = Long.MIN_VALUE + 1;
    static final long STATE = Long.MIN_VALUE + 2;
    static final long OTHER = Long.MIN_VALUE + 3;

    private static int wrong = 0;
    private static int looked = 0;
    private static int sentences = 0;
    private static String sentence = "";

    private Check() {}

    /**
     * The test of its own that one sentence of the document has. What is not as due is told with
     * the sentence, and a test that looks at no answer at all is wrong too.
     */
    static void sentence(String section, String words, Runnable test) {
        sentence = section + ", \"" + words + "\": ";
        sentences++;
        int before = looked;
        try {
            test.run();
        } catch (RuntimeException e) {
            fault("threw " + e);
        }
        if (looked == before) {
            fault("no answer was looked at");
        }
        sentence = "";
    }

    static void due(String call, long got, long want) {
        looked++;
        if (got != want) {
            fault(call + " answered " + told(got) + ", due is " + told(want));
        }
    }

    static void due(String call, boolean got, boolean want) {
        due(call, got ? 1 : 0, want ? 1 : 0);
    }

    static void due(String call, String got, String want) {
        looked++;
        if (!got.equals(want)) {
            fault(call + ":\n  got " + got + "\n  due " + want);
        }
    }

    /** The answer of a call, or the number that stands for the exception that it threw. */
    static long answer(LongSupplier call) {
        try {
            return call.getAsLong();
        } catch (RuntimeException e) {
            if (e.getClass() == IllegalArgumentException.class) {
                return ARGUMENT;
            }
            return e.getClass() == IllegalStateException.class ? STATE : OTHER;
        }
    }

    static void end() {
        String tested = sentences == 0 ? "" : sentences + " sentences, ";
        System.out.println(tested + looked + " answers looked at, " + wrong + " not as due");
        if (wrong != 0) {
            System.exit(1);
        }
    }

    private static void fault(String text) {
        wrong++;
        System.out.println(sentence + text);
    }

    private static String told(long answer) {
        if (answer == ARGUMENT) {
            return "throws.IllegalArgumentException";
        }
        if (answer == STATE) {
            return "throws.IllegalStateException";
        }
        return answer == OTHER ? "throws another exception" : Long.toString(answer);
    }
}
