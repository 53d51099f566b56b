import java.util.NoSuchElementException;
import java.util.function.IntSupplier;

/** Compares answers and exceptions with those that are due, and remembers how many were wrong. */
final class Check {
    private static final int MOST_PRINTED = 20;
    private int wrong = 0;
    private int done = 0;

    void equal(String what, Object due, Object got) {
        done++;
        if (!due.equals(got)) {
            fail(what + " answered " + got + ", due is " + due);
        }
    }

    void answers(String what, int due, IntSupplier call) {
        equal(what, String.valueOf(due), outcome(call));
    }

    /** The call must throw just this class, and leave all that can be asked of the object as it was. */
    void refuses(String what, Class<? extends RuntimeException> due, CircuitSimulator x, IntSupplier call) {
        String before = picture(x);
        equal(what, due.getSimpleName(), outcome(call));
        equal(what + ", all that can be asked afterwards", before, picture(x));
    }

    void finish(String name) {
        System.out.println(name + ": " + done + " checks, " + wrong + " wrong");
        if (wrong > 0) {
            System.exit(1);
        }
    }

    private void fail(String text) {
        wrong++;
        if (wrong <= MOST_PRINTED) {
            System.out.println(text);
        }
    }

    static String outcome(IntSupplier call) {
        try {
            return String.valueOf(call.getAsInt());
        } catch (RuntimeException e) {
            return e.getClass().getSimpleName();
        }
    }

    /** Every answer of the calls that only ask. */
    static String picture(CircuitSimulator x) {
        StringBuilder text = new StringBuilder();
        for (int what = 0; what < 8; what++) {
            text.append(x.count(what)).append(' ');
        }
        for (int net = 0; net < 80; net++) {
            int asked = net;
            text.append(outcome(() -> x.value(asked))).append(' ');
            text.append(outcome(() -> x.level(asked))).append(' ');
            text.append(outcome(() -> x.flips(asked))).append(' ');
        }
        for (int cell = 0; cell < 60; cell++) {
            int asked = cell;
            text.append(outcome(() -> x.state(asked))).append(' ');
        }
        return text.append(outcome(x::loop)).toString();
    }

    static final Class<IllegalArgumentException> ARGUMENT = IllegalArgumentException.class;
    static final Class<IllegalStateException> STATE = IllegalStateException.class;
    static final Class<NoSuchElementException> ELEMENT = NoSuchElementException.class;
    static final Class<UnsupportedOperationException> UNSUPPORTED = UnsupportedOperationException.class;
}
