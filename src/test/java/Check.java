import java.util.function.IntSupplier;

/** Counts and prints what is not as due. */
final class Check {
    static final Class<? extends RuntimeException> ARGUMENT = IllegalArgumentException.class;
    static final Class<? extends RuntimeException> STATE = IllegalStateException.class;
    static final Class<? extends RuntimeException> UNSUPPORTED = UnsupportedOperationException.class;
    static final Class<? extends RuntimeException> ELEMENT = java.util.NoSuchElementException.class;

    private int checked;
    private int wrong;

    void is(String what, long got, long want) {
        checked++;
        if (got != want) {
            fail(what + " answered " + got + ", due is " + want);
        }
    }

    void holds(String what, boolean truth) {
        checked++;
        if (!truth) {
            fail(what + " does not hold");
        }
    }

    void fails(String what, Class<? extends RuntimeException> want, IntSupplier call) {
        checked++;
        String got;
        try {
            got = "answered " + call.getAsInt();
        } catch (RuntimeException e) {
            if (e.getClass() == want) {
                return;
            }
            got = "threw " + e.getClass().getSimpleName();
        }
        fail(what + " " + got + ", due is " + want.getSimpleName());
    }

    void end(String title) {
        System.out.println(title + ": " + checked + " checks, " + wrong + " wrong");
        if (wrong != 0 || checked == 0) {
            System.exit(1);
        }
    }

    private void fail(String text) {
        wrong++;
        System.out.println(text);
    }
}
