/** Compares answers with what is due; the tests' common ground. */
final class Check {
    static final Class<?> INDEX = IndexOutOfBoundsException.class;
    static final Class<?> ARGUMENT = IllegalArgumentException.class;
    static final Class<?> STATE = IllegalStateException.class;
    static final int LOWEST = Integer.MIN_VALUE;
    static final int HIGHEST = Integer.MAX_VALUE;

    private static final int MOST_PRINTED = 40;

    private int wrong;
    private int checked;

    /** A call whose answer is told as a number. */
    interface Call {
        long now();
    }

    static long one(boolean isTrue) {
        return isTrue ? 1 : 0;
    }

    void due(int promise, String call, long want, Call got) {
        checked++;
        try {
            long answer = got.now();
            if (answer != want) {
                tell(promise, call + " answered " + answer + ", due is " + want);
            }
        } catch (RuntimeException e) {
            tell(promise, call + " threw " + e + ", due is " + want);
        }
    }

    /**
     * The very class is due, since a class below it is another exception than the document names; and the program
     * itself must have thrown it, not the library or the machine.
     */
    void throwing(int promise, String call, Class<?> want, Call got) {
        checked++;
        try {
            long answer = got.now();
            tell(promise, call + " answered " + answer + ", due is " + want.getSimpleName());
        } catch (RuntimeException e) {
            if (e.getClass() != want) {
                tell(promise, call + " threw " + e + ", due is " + want.getSimpleName());
            } else if (!isThrownByProgram(e)) {
                tell(promise, call + " threw " + e + ", but the program did not throw it itself");
            }
        }
    }

    private static boolean isThrownByProgram(RuntimeException e) {
        StackTraceElement[] trace = e.getStackTrace();
        return trace.length > 0 && trace[0].getClassName().startsWith("Kneadery");
    }

    private void tell(int promise, String text) {
        wrong++;
        if (wrong <= MOST_PRINTED) {
            System.out.println("promise " + promise + ": " + text);
        }
    }

    void end() {
        System.out.println(checked + " answers checked, " + wrong + " not as due");
        if (wrong != 0) {
            System.exit(1);
        }
    }
}
