import java.util.function.LongSupplier;

/** What all tests use: counts the answers that are not due, and ends with exit code 1 if any. */
final class Check {
    static final long ARGUMENT = Long.MIN_VALUE + 1;
    static final long STATE = Long.MIN_VALUE + 2;

    private static int wrong = 0;
    private static int looked = 0;

    private Check() {}

    static void due(String call, long got, long want) {
        looked++;
        if (got != want) {
            wrong++;
            System.out.println(call + " answered " + told(got) + ", due is " + told(want));
        }
    }

    static void due(String call, boolean got, boolean want) {
        due(call, got ? 1 : 0, want ? 1 : 0);
    }

    static void due(String call, String got, String want) {
        looked++;
        if (!got.equals(want)) {
            wrong++;
            System.out.println(call + ":\n  got " + got + "\n  due " + want);
        }
    }

    /** The answer of a call, or the number that stands for the exception that it threw. */
    static long answer(LongSupplier call) {
        try {
            return call.getAsLong();
        } catch (RuntimeException e) {
            if (e.getClass() == IllegalArgumentException.class) {
                return ARGUMENT;
            }
            if (e.getClass() == IllegalStateException.class) {
                return STATE;
            }
            throw e;
        }
    }

    static void end() {
        System.out.println(looked + " answers looked at, " + wrong + " not as due");
        if (wrong != 0) {
            System.exit(1);
        }
    }

    private static String told(long answer) {
        if (answer == ARGUMENT) {
            return "throws.IllegalArgumentException";
        }
        return answer == STATE ? "throws.IllegalStateException" : Long.toString(answer);
    }
}
