/** Every call on a circuit of 60 cells and 80 nets, and on one without cells. */
final class FullAndEmptyTest extends Suite {
    public static void main(String[] args) throws ReflectiveOperationException {
        run(new FullAndEmptyTest());
    }

    void fullItBuilds() {
        Circuit x = Scenes.full();
        check.answers("nets", 80, () -> x.count(0));
        check.answers("cells", 60, () -> x.count(1));
        check.answers("registers", 5, () -> x.count(2));
        check.answers("not built", 0, () -> x.count(3));
        check.answers("all UNKNOWN", 80, () -> x.count(5));
        check.answers("a register, seven NOTs, TRIs, TRIs behind them", 10, x::build);
        check.answers("built", 1, () -> x.count(3));
    }

    /** In each instance local net 9 is 1 at first, and 8 to 2 go to and fro behind it. */
    void fullItSettles() {
        Circuit x = Scenes.full();
        x.build();
        for (int instance = 0; instance < 5; instance++) {
            for (int local = 2; local <= 9; local++) {
                int net = 40 + 8 * instance + local - 2;
                int level = 10 - local;
                check.answers("value " + net, local % 2, () -> x.value(net));
                check.answers("level " + net, level, () -> x.level(net));
            }
        }
        check.answers("y: all its ten TRIs are 0", 0, () -> x.value(20));
        check.answers("its level", 9, () -> x.level(20));
        check.answers("TRIs of y that is 0 float", 3, () -> x.value(0));
        check.answers("their level", 10, () -> x.level(0));
        check.answers("x of an instance has no driver", 3, () -> x.value(14));
        check.answers("nets with a value", 41, () -> x.count(4));
        check.answers("nets that float", 39, () -> x.count(6));
    }

    void fullItTicks() {
        Circuit x = Scenes.full();
        x.build();
        check.answers("all registers take 0", 5, () -> x.tick(0));
        check.answers("net 79 turned", 1, () -> x.flips(79));
        check.answers("net 79", 0, () -> x.value(79));
        check.answers("all TRIs of y float", 3, () -> x.value(20));
        check.answers("TRIs of y that floats are UNKNOWN", 2, () -> x.value(0));
        check.answers("none of clock 1", 0, () -> x.tick(1));
        check.answers("back again", 5, () -> x.tick(0));
        check.answers("net 40 turned twice", 2, () -> x.flips(40));
        check.answers("y went over FLOATING", 0, () -> x.flips(20));
        check.answers("turns: two of each of 40 fresh nets", 80, x::reset);
    }

    void fullItRefusesWhatIsMore() {
        Circuit x = Scenes.full();
        x.build();
        check.refuses("a cell", Check.STATE, x, c -> c.cell(TRI, 0, 1, 1, 0));
        check.refuses("an instance of ten cells", Check.STATE, x, c -> c.instance(1, 0, 20));
        check.refuses("an instance with fresh nets", Check.STATE, x, c -> c.instance(0, 1, 20));
        check.refuses("a part", Check.STATE, x, c -> c.part(0, TRI, 1, 2, 2, 0));
        check.refuses("a part of the other", Check.STATE, x, c -> c.part(1, TRI, 1, 2, 2, 0));
        check.refuses("net 80", Check.ELEMENT, x, c -> c.value(80));
        check.refuses("net 80", Check.ELEMENT, x, c -> c.level(80));
        check.refuses("net 80", Check.ELEMENT, x, c -> c.flips(80));
        check.refuses("net 80", Check.ELEMENT, x, c -> c.stick(80, 1));
        check.refuses("cell 60", Check.ELEMENT, x, c -> c.state(60));
        check.refuses("cell 60", Check.ELEMENT, x, c -> c.set(60, 1));
        check.refuses("cell 59, no port", Check.ELEMENT, x, c -> c.set(59, 1));
        check.refuses("a loop", Check.ELEMENT, x, Circuit::loop);
    }

    void fullOfPorts() {
        Circuit x = Scenes.ports(40);
        x.part(0, TRI, 2, 0, 1, 0);
        x.part(0, TRI, 3, 1, 0, 0);
        for (int i = 0; i < 10; i++) {
            x.instance(0, 2 * i, 2 * i + 1);
        }
        check.answers("cells", 60, () -> x.count(1));
        check.answers("nets", 60, () -> x.count(0));
        check.answers("they build", 2, x::build);
        for (int port = 0; port < 40; port++) {
            int given = port;
            check.answers("port " + port, 1, () -> x.set(given, 1));
        }
        check.answers("all nets are 1", 60, () -> x.count(4));
        for (int port = 0; port < 40; port++) {
            int given = port;
            check.answers("port " + port, 0, () -> x.set(given, 0));
        }
        check.answers("TRIs of 0 float", 20, () -> x.count(6));
        check.answers("ports are 0", 40, () -> x.count(4));
    }

    void emptyEveryCallOfANewObject() {
        Circuit x = new Circuit();
        check.refuses("loop", Check.ELEMENT, x, Circuit::loop);
        check.refuses("set", Check.ELEMENT, x, c -> c.set(0, 0));
        check.refuses("tick", Check.STATE, x, c -> c.tick(0));
        check.refuses("level", Check.STATE, x, c -> c.level(0));
        check.refuses("state", Check.ELEMENT, x, c -> c.state(0));
        check.answers("value", 2, () -> x.value(0));
        check.answers("flips", 0, () -> x.flips(0));
        check.answers("stick", 1, () -> x.stick(0, 0));
        check.answers("reset", 0, x::reset);
        check.answers("build", 0, x::build);
    }

    void emptyEveryCallOfABuiltCircuit() {
        Circuit x = new Circuit();
        check.answers("build", 0, x::build);
        check.refuses("loop", Check.ELEMENT, x, Circuit::loop);
        check.refuses("set", Check.ELEMENT, x, c -> c.set(0, 0));
        check.refuses("state", Check.ELEMENT, x, c -> c.state(0));
        check.answers("tick", 0, () -> x.tick(0));
        check.answers("level", 0, () -> x.level(39));
        check.answers("value", 3, () -> x.value(39));
        check.answers("flips", 0, () -> x.flips(39));
        check.answers("stick", 1, () -> x.stick(39, 1));
        check.answers("0 or 1", 1, () -> x.count(4));
        check.answers("reset", 0, x::reset);
        check.answers("FLOATING", 40, () -> x.count(6));
        check.answers("settlings", 4, () -> x.count(7));
    }

    void emptyTemplatesOfEachNumber() {
        Circuit x = new Circuit();
        check.answers("template 0", 40, () -> x.instance(0, 0, 39));
        check.answers("template 1", 40, () -> x.instance(1, 39, 0));
        check.answers("cells", 0, () -> x.count(1));
        check.answers("it builds", 0, x::build);
        check.answers("template 0 is filled then", 1, () -> x.part(0, NOT, 2, 0, 0, 0));
        check.answers("and has an instance", 41, () -> x.instance(0, 0, 39));
        check.answers("template 1 is empty still", 41, () -> x.instance(1, 0, 40));
    }
}
