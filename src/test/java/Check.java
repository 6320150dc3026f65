import java.util.NoSuchElementException;

/** Counts what is not as due, and ends a test program with exit code 1 if there was any. */
final class Check {
    interface Call {
        long answer();
    }

    static final Class<?> NO_INDEX = IndexOutOfBoundsException.class;
    static final Class<?> NO_ELEMENT = NoSuchElementException.class;
    static final Class<?> TOO_MANY = UnsupportedOperationException.class;
    static final Class<?> BAD_ARGUMENT = IllegalArgumentException.class;

    private static String test = "";
    private static int checks = 0;
    private static int wrong = 0;

    private Check() {
    }

    /** The test that what comes is a part of. */
    static void about(String name) {
        test = name + ": ";
    }

    static int count() {
        return checks;
    }

    static void same(String what, Object got, Object due) {
        checks++;
        if (!due.equals(got)) {
            wrong++;
            System.out.println(test + what + ": got " + got + ", due is " + due);
        }
    }

    static void due(String what, long got, long due) {
        same(what, got, due);
    }

    static void due(String what, boolean got, boolean due) {
        same(what, got, due);
    }

    static void refused(String what, Class<?> due, Call call) {
        same(what, outcome(call), due.getSimpleName());
    }

    /** The answer, or the exact class of what was thrown instead. */
    static String outcome(Call call) {
        try {
            return Long.toString(call.answer());
        } catch (RuntimeException e) {
            return e.getClass().getSimpleName();
        }
    }

    static void finish(String name) {
        System.out.println(name + ": " + checks + " checks, " + wrong + " wrong");
        if (wrong != 0) {
            System.exit(1);
        }
    }
}
