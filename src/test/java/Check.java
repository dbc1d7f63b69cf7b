/** Counts the answers that are not the ones that are due. */
final class Check {
    /** A call that may throw. */
    interface Call {
        long answer();
    }

    private static int wrong = 0;

    private Check() {
    }

    static void due(String call, long got, long want) {
        if (got != want) {
            wrong++;
            System.out.println(call + " answered " + got + ", due is " + want);
        }
    }

    static void due(String call, boolean got, boolean want) {
        due(call, got ? 1 : 0, want ? 1 : 0);
    }

    static void state(String call, Call made) {
        dueThrow(call, made, IllegalStateException.class);
    }

    static void argument(String call, Call made) {
        dueThrow(call, made, IllegalArgumentException.class);
    }

    static void index(String call, Call made) {
        dueThrow(call, made, IndexOutOfBoundsException.class);
    }

    private static void dueThrow(String call, Call made, Class<? extends RuntimeException> want) {
        try {
            long got = made.answer();
            wrong++;
            System.out.println(call + " answered " + got + ", due is " + want.getSimpleName());
        } catch (RuntimeException e) {
            if (e.getClass() != want) {
                wrong++;
                System.out.println(call + " threw " + e + ", due is " + want.getSimpleName());
            }
        }
    }

    /** What a call answers, or the name of what it throws. */
    static String told(Call made) {
        try {
            return Long.toString(made.answer());
        } catch (RuntimeException e) {
            return e.getClass().getSimpleName();
        }
    }

    static void end() {
        if (wrong != 0) {
            System.out.println(wrong + " answers are not as due");
            System.exit(1);
        }
    }
}
