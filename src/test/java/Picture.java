import java.util.function.IntSupplier;

/** Texts of what an object answers, to be compared with those of its twin; each takes some 310 calls. */
final class Picture {
    private final StringBuilder text = new StringBuilder();
    private final Circuit x;

    private Picture(Circuit x) {
        this.x = x;
    }

    /** Every answer of the calls that only ask. */
    static String of(Circuit x) {
        Picture picture = new Picture(x);
        for (int what = 0; what <= 7; what++) {
            int asked = what;
            picture.add(() -> x.count(asked));
        }
        picture.values();
        picture.flips();
        picture.levels();
        picture.states();
        picture.add(x::loop);
        return picture.text.toString();
    }

    /** Answers that show what cannot be asked: what ports are set to, what is stuck, and what templates have. */
    static String later(Circuit x) {
        Picture picture = new Picture(x);
        picture.add(x::build);
        picture.values();
        picture.add(x::reset);
        picture.values();
        picture.add(() -> x.instance(0, 38, 39));
        picture.add(() -> x.instance(1, 36, 37));
        picture.add(x::build);
        picture.levels();
        picture.states();
        picture.add(() -> x.part(0, 1, 2, 3, 0, 0));
        picture.add(() -> x.part(1, 1, 2, 3, 0, 0));
        return picture.text.toString();
    }

    private void add(IntSupplier call) {
        text.append(Check.outcome(call)).append(' ');
    }

    private void values() {
        int nets = x.count(0);
        for (int net = 0; net < nets; net++) {
            int asked = net;
            add(() -> x.value(asked));
        }
    }

    private void flips() {
        int nets = x.count(0);
        for (int net = 0; net < nets; net++) {
            int asked = net;
            add(() -> x.flips(asked));
        }
    }

    private void levels() {
        int nets = x.count(0);
        for (int net = 0; net < nets; net++) {
            int asked = net;
            add(() -> x.level(asked));
        }
    }

    private void states() {
        int cells = x.count(1);
        for (int cell = 0; cell < cells; cell++) {
            int asked = cell;
            add(() -> x.state(asked));
        }
    }
}
