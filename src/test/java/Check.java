import java.util.NoSuchElementException;

/** Counts what is as due, and tells what is not. */
final class Check {
    interface Call {
        Object answer();
    }

    static final Class<? extends RuntimeException> ARGUMENT = IllegalArgumentException.class;
    static final Class<? extends RuntimeException> STATE = IllegalStateException.class;
    static final Class<? extends RuntimeException> INDEX = IndexOutOfBoundsException.class;
    static final Class<? extends RuntimeException> UNSUPPORTED = UnsupportedOperationException.class;
    static final Class<? extends RuntimeException> NO_ELEMENT = NoSuchElementException.class;
    static final Class<? extends RuntimeException> ARITHMETIC = ArithmeticException.class;

    private static int right = 0;
    private static int wrong = 0;

    private Check() {
    }

    static void that(String what, boolean holds) {
        if (holds) {
            right++;
        } else {
            wrong++;
            System.out.println("  wrong: " + what);
        }
    }

    static void same(String what, Object got, Object due) {
        that(what + " answered " + got + ", due is " + due, due.equals(got));
    }

    /** The call must throw just this class, no class below it, by a throw of the program, and change nothing. */
    static void refuses(String what, Staveyard yard, Class<? extends RuntimeException> due, Call call) {
        String before = Picture.of(yard);
        String got;
        try {
            got = "answered " + call.answer();
        } catch (RuntimeException e) {
            got = e.getClass().getName();
        }
        that(what + ": " + got + ", due is " + due.getName(), got.equals(due.getName()));
        that(what + " changed something", before.equals(Picture.of(yard)));
    }

    static void end() {
        System.out.println("  " + right + " right, " + wrong + " wrong");
        if (wrong != 0) {
            System.exit(1);
        }
    }
}
