/** Counts answers and exceptions that are not as due; each test ends with end(). */
final class Check {
    interface Call {
        void make();
    }

    private static int wrong = 0;

    private Check() {
    }

    static void due(String call, long got, long want) {
        if (got != want) {
            report(call + " answered " + got + ", due is " + want);
        }
    }

    static void due(String call, boolean got, boolean want) {
        due(call, got ? 1 : 0, want ? 1 : 0);
    }

    static void throwsIndex(String call, Call made) {
        dueThrow(call, made, IndexOutOfBoundsException.class);
    }

    static void throwsArgument(String call, Call made) {
        dueThrow(call, made, IllegalArgumentException.class);
    }

    static void throwsState(String call, Call made) {
        dueThrow(call, made, IllegalStateException.class);
    }

    private static void dueThrow(String call, Call made, Class<?> want) {
        try {
            made.make();
            report(call + " threw nothing, due is " + want.getName());
        } catch (RuntimeException e) {
            if (!isThrownByTheProgram(e, want)) {
                report(call + " threw " + e + ", due is " + want.getName());
            }
        }
    }

    /** What the machine throws bears a class below the wanted one, or comes out of the library. */
    static boolean isThrownByTheProgram(RuntimeException e, Class<?> want) {
        StackTraceElement[] frames = e.getStackTrace();
        return e.getClass() == want && frames.length > 0 && frames[0].getClassName().startsWith("SplitGate");
    }

    static void report(String text) {
        wrong++;
        if (wrong <= 50) {
            System.out.println(text);
        }
    }

    static boolean failed() {
        return wrong != 0;
    }

    static void end() {
        System.out.println(wrong == 0 ? "all answers are as due" : wrong + " answers are not as due");
        if (wrong != 0) {
            System.exit(1);
        }
    }
}
