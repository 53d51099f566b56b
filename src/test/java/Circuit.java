import java.util.ArrayList;
import java.util.List;
import java.util.function.ToIntFunction;

/**
 * The program as a test sees it. It remembers its calls, so that a test can have a twin of it, and it
 * refuses the 513th: what an object answers then is free, and a test must not lean on it.
 */
final class Circuit {
    static final int MOST_CALLS = 512;

    private final CircuitSimulator program = new CircuitSimulator();
    private final List<ToIntFunction<CircuitSimulator>> calls = new ArrayList<>();

    /** A new object that has had the same calls. */
    Circuit twin() {
        Circuit other = new Circuit();
        for (ToIntFunction<CircuitSimulator> call : calls) {
            Check.outcome(() -> other.does(call));
        }
        return other;
    }

    int calls() {
        return calls.size();
    }

    private int does(ToIntFunction<CircuitSimulator> call) {
        if (calls.size() == MOST_CALLS) {
            throw new AssertionError("the test calls one object more than " + MOST_CALLS + " times");
        }
        calls.add(call);
        return call.applyAsInt(program);
    }

    int cell(int kind, int out, int a, int b, int c) {
        return does(p -> p.cell(kind, out, a, b, c));
    }

    int part(int template, int kind, int out, int a, int b, int c) {
        return does(p -> p.part(template, kind, out, a, b, c));
    }

    int instance(int template, int x, int y) {
        return does(p -> p.instance(template, x, y));
    }

    int build() {
        return does(CircuitSimulator::build);
    }

    int loop() {
        return does(CircuitSimulator::loop);
    }

    int set(int cell, int value) {
        return does(p -> p.set(cell, value));
    }

    int tick(int clock) {
        return does(p -> p.tick(clock));
    }

    int stick(int net, int value) {
        return does(p -> p.stick(net, value));
    }

    int value(int net) {
        return does(p -> p.value(net));
    }

    int level(int net) {
        return does(p -> p.level(net));
    }

    int flips(int net) {
        return does(p -> p.flips(net));
    }

    int state(int cell) {
        return does(p -> p.state(cell));
    }

    int reset() {
        return does(CircuitSimulator::reset);
    }

    int count(int what) {
        return does(p -> p.count(what));
    }
}
