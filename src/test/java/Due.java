import java.util.NoSuchElementException;

/** Counts and prints the answers that are not as due. */
final class Due {
    static final Class<?> BOUNDS = IndexOutOfBoundsException.class;
    static final Class<?> ARGUMENT = IllegalArgumentException.class;
    static final Class<?> UNSUPPORTED = UnsupportedOperationException.class;
    static final Class<?> STATE = IllegalStateException.class;
    static final Class<?> NO_SUCH = NoSuchElementException.class;
    static final Class<?> ARITHMETIC = ArithmeticException.class;

    private static int calls = 0;
    private static int wrong = 0;

    interface Call {
        Object answer();
    }

    private Due() {
    }

    /** The answer, or the very class of the exception; one that the machine throws answers itself. */
    static Object answerOf(Call call) {
        try {
            return call.answer();
        } catch (RuntimeException e) {
            boolean isDivision = "/ by zero".equals(e.getMessage());
            return isDivision ? e : e.getClass();
        }
    }

    static void is(String what, Object want, Call call) {
        same(what, want, answerOf(call));
    }

    static void same(String what, Object want, Object got) {
        calls++;
        if (!want.equals(got)) {
            wrong++;
            if (wrong <= 40) {
                System.out.println(what + " answered " + got + ", due is " + want);
            }
        }
    }

    static void end() {
        System.out.println(calls + " answers, " + wrong + " wrong");
        System.exit(wrong == 0 ? 0 : 1);
    }
}
