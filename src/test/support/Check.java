import java.util.NoSuchElementException;

/** What the tests share. They extend it, as a class without a package can't be imported. */
abstract class Check {
    static final Class<?> RANGE = IllegalArgumentException.class;
    static final Class<?> STATE = IllegalStateException.class;
    static final Class<?> INDEX = IndexOutOfBoundsException.class;
    static final Class<?> UNSUPPORTED = UnsupportedOperationException.class;
    static final Class<?> MISSING = NoSuchElementException.class;
    static final Class<?> ARITHMETIC = ArithmeticException.class;

    private static int wrong = 0;
    private static int asked = 0;

    interface Call {
        Object answer();
    }

    /** What the call answers, or the class of what it throws. */
    static Object answerOf(Call call) {
        try {
            return call.answer();
        } catch (RuntimeException e) {
            return e.getClass();
        }
    }

    static void is(int promise, String what, Object due, Call call) {
        asked++;
        Object got = answerOf(call);
        if (!due.equals(got)) {
            wrong++;
            System.out.println("promise " + promise + ": " + what + " answered " + got + ", due is " + due);
        }
    }

    /** Ends the test, with 1 if an answer was wrong. */
    static void close() {
        System.out.println(wrong == 0 ? asked + " answers are as due" : wrong + " answers are not as due");
        if (wrong != 0) {
            System.exit(1);
        }
    }
}
