import java.util.NoSuchElementException;
import java.util.Objects;

/** Compares answers with what is due, prints every difference, and ends a test. */
final class Due {
    static final Class<IndexOutOfBoundsException> INDEX = IndexOutOfBoundsException.class;
    static final Class<IllegalArgumentException> ARGUMENT = IllegalArgumentException.class;
    static final Class<IllegalStateException> STATE = IllegalStateException.class;
    static final Class<NoSuchElementException> ELEMENT = NoSuchElementException.class;
    static final Class<UnsupportedOperationException> UNSUPPORTED = UnsupportedOperationException.class;
    static final Class<ArithmeticException> ARITHMETIC = ArithmeticException.class;

    interface Call {
        Object answer();
    }

    private static String about = "";
    private static int checks;
    private static int wrong;

    private Due() {
    }

    /** What the checks from here on are about; it is printed ahead of every difference. */
    static void about(String text) {
        about = text;
    }

    /** The answer must equal the due one; a number must also have the type of the due one. */
    static void is(String what, Object due, Object got) {
        checks++;
        if (!Objects.equals(due, got)) {
            wrong++;
            System.out.println(about + what + ": answered " + got + ", due is " + due);
        }
    }

    /** The call must throw an exception of exactly this class. */
    static void fails(String what, Class<? extends RuntimeException> due, Call call) {
        is(what, due.getSimpleName(), outcome(call));
    }

    /** The answer of a call, or the plain name of the class of what it throws. */
    static Object outcome(Call call) {
        try {
            return call.answer();
        } catch (RuntimeException e) {
            return e.getClass().getSimpleName();
        }
    }

    static int checksSoFar() {
        return checks;
    }

    static int wrongSoFar() {
        return wrong;
    }

    static void end() {
        System.out.println(checks + " checks, " + wrong + " wrong");
        if (wrong > 0) {
            System.exit(1);
        }
    }
}
