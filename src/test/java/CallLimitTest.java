import java.util.function.ToIntFunction;

/** An object holds its promises up to its 512th call, whichever call that is. */
final class CallLimitTest extends Suite {
    public static void main(String[] args) throws ReflectiveOperationException {
        run(new CallLimitTest());
    }

    /** Checks the answer of the call that is the 512th, after sets that let net 0 turn each time. */
    private void last(String what, int due, ToIntFunction<Circuit> call) {
        Circuit x = turned(Circuit.MOST_CALLS - 1);
        check.answers(what, due, () -> call.applyAsInt(x));
        check.equal("calls", Circuit.MOST_CALLS, x.calls());
    }

    /** A port, a register of clock 1 behind it, a loop in template 0; then 0 and 1 in turns, 1 at last. */
    private static Circuit turned(int calls) {
        Circuit x = Scenes.ports(1);
        x.cell(REGISTER, 1, 0, 1, 0);
        x.part(0, NOT, 2, 2, 0, 0);
        x.build();
        while (x.calls() < calls) {
            x.set(0, (calls - x.calls()) % 2);
        }
        return x;
    }

    void asTheLastCall() {
        last("cell", 2, x -> x.cell(TRI, 39, 0, 0, 0));
        last("part", 2, x -> x.part(0, NOT, 3, 2, 0, 0));
        last("instance", 41, x -> x.instance(0, 0, 0));
        last("build", 1, Circuit::build);
        last("set", 3, x -> x.set(0, 3));
        last("tick", 1, x -> x.tick(1));
        last("stick", 1, x -> x.stick(0, 0));
        last("value", 1, x -> x.value(0));
        last("level", 1, x -> x.level(0));
        last("flips", 506, x -> x.flips(0));
        last("state", 0, x -> x.state(1));
        last("reset", 506, Circuit::reset);
        last("count of settlings", 508, x -> x.count(7));
    }

    void refusedAsTheLastCall() {
        Circuit x = turned(Circuit.MOST_CALLS - 1);
        check.equal("loop", "NoSuchElementException", Check.outcome(x::loop));
        Circuit y = turned(Circuit.MOST_CALLS - 1);
        check.equal("cell", "UnsupportedOperationException", Check.outcome(() -> y.cell(PORT, 0, 0, 0, 0)));
    }

    void refusedCallsAllTheWay() {
        Circuit x = Scenes.ports(1);
        while (x.calls() < Circuit.MOST_CALLS - 2) {
            check.equal("cell", "UnsupportedOperationException", Check.outcome(() -> x.cell(PORT, 0, 0, 0, 0)));
        }
        check.answers("cells", 1, () -> x.count(1));
        check.answers("it builds", 1, x::build);
    }

    void ticksAllTheWay() {
        Circuit x = new Circuit();
        x.cell(NOT, 1, 0, 0, 0);
        x.cell(REGISTER, 0, 1, 0, 0);
        x.build();
        while (x.calls() < Circuit.MOST_CALLS - 1) {
            check.answers("tick", 1, () -> x.tick(0));
        }
        check.answers("turns of both nets", 2 * 508, x::reset);
    }

    void eightyNetsThatTurnAllTheWay() {
        Circuit x = new Circuit();
        x.part(0, NOT, 2, 0, 0, 0);
        for (int i = 0; i < 40; i++) {
            x.instance(0, 0, 0);
        }
        x.cell(NOT, 1, 0, 0, 0);
        x.cell(REGISTER, 0, 1, 0, 0);
        x.build();
        int ticks = 0;
        while (x.calls() < Circuit.MOST_CALLS - 1) {
            x.tick(0);
            ticks++;
        }
        check.answers("turns of 42 nets", 42 * ticks, x::reset);
    }

    void buildingAgainAllTheWay() {
        Circuit x = new Circuit();
        while (x.calls() < Circuit.MOST_CALLS - 2) {
            check.answers("an instance without cells", 40, () -> x.instance(0, 0, 0));
            check.answers("build", 0, x::build);
        }
        check.answers("settlings", 255, () -> x.count(7));
        check.answers("cells", 0, () -> x.count(1));
    }
}
