import java.util.NoSuchElementException;
import java.util.function.IntSupplier;
import java.util.function.ToIntFunction;

/** Compares answers and exceptions with those that are due, and remembers how many were wrong. */
final class Check {
    static final Class<IllegalArgumentException> ARGUMENT = IllegalArgumentException.class;
    static final Class<IllegalStateException> STATE = IllegalStateException.class;
    static final Class<NoSuchElementException> ELEMENT = NoSuchElementException.class;
    static final Class<UnsupportedOperationException> UNSUPPORTED = UnsupportedOperationException.class;

    private static final int MOST_PRINTED = 20;
    private String under = "";
    private int wrong = 0;
    private int done = 0;

    /** What is checked from here on is told under this name. */
    void under(String name) {
        under = name + ": ";
    }

    int done() {
        return done;
    }

    void equal(String what, Object due, Object got) {
        done++;
        if (!due.equals(got)) {
            fail(what + " answered " + got + ", due is " + due);
        }
    }

    void answers(String what, int due, IntSupplier call) {
        equal(what, String.valueOf(due), outcome(call));
    }

    /**
     * The call must throw just this class, and leave the object as it was: whatever is asked of it or
     * done with it then goes as with a twin that never had the call.
     */
    void refuses(String what, Class<? extends RuntimeException> due, Circuit x, ToIntFunction<Circuit> call) {
        Circuit asked = x.twin();
        Circuit used = x.twin();
        equal(what, due.getSimpleName(), outcome(() -> call.applyAsInt(x)));
        equal(what + ", then all that can be asked", Picture.of(asked), Picture.of(x.twin()));
        equal(what + ", then all that is done", Picture.later(used), Picture.later(x.twin()));
    }

    void fail(String text) {
        wrong++;
        if (wrong <= MOST_PRINTED) {
            System.out.println(under + text);
        }
    }

    void finish(String name) {
        System.out.println(name + ": " + done + " checks, " + wrong + " wrong");
        if (wrong > 0) {
            System.exit(1);
        }
    }

    static String outcome(IntSupplier call) {
        try {
            return String.valueOf(call.getAsInt());
        } catch (RuntimeException e) {
            return e.getClass().getSimpleName();
        }
    }
}
