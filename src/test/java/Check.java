import java.util.Objects;

/** Counts the answers that are not the ones that are due. */
final class Check {
    /** A call that may throw. */
    interface Call {
        Object answer();
    }

    private static final int MOST_PRINTED = 50;
    private static int checked = 0;
    private static int wrong = 0;

    private Check() {
    }

    static void same(String what, Object got, Object want) {
        checked++;
        if (!Objects.equals(got, want)) {
            wrong++;
            if (wrong <= MOST_PRINTED) {
                System.out.println(what + " answered " + got + ", due is " + want);
            }
        }
    }

    /** Compares the exact class, so that an exception that the machine throws does not pass for its parent. */
    static void throwing(String what, Class<? extends RuntimeException> want, Call call) {
        same(what, outcome(call), want);
    }

    /** Returns the answer, or the class of the exception, or a text if the machine itself threw it. */
    static Object outcome(Call call) {
        try {
            return call.answer();
        } catch (RuntimeException e) {
            return isThrownByCode(e) ? e.getClass() : "machine: " + e;
        }
    }

    /** The library's exceptions begin in a frame of its own, and a division by zero has a message of its own. */
    private static boolean isThrownByCode(RuntimeException exception) {
        StackTraceElement[] frames = exception.getStackTrace();
        boolean isByZero = "/ by zero".equals(exception.getMessage());
        return frames.length > 0 && !frames[0].getClassName().startsWith("java.") && !isByZero;
    }

    static void finish() {
        System.out.println(checked + " answers, " + wrong + " wrong");
        if (wrong > 0 || checked == 0) {
            System.exit(1);
        }
    }
}
