/** Promises 1, 10, 12, 13 and 15 at their bounds: a new object, value, flips, state and count. */
final class AskBoundsTest extends Suite {
    public static void main(String[] args) throws ReflectiveOperationException {
        run(new AskBoundsTest());
    }

    // A new object.

    void aNewObjectHasNothing() {
        Circuit x = new Circuit();
        int[] due = {40, 0, 0, 0, 0, 40, 0, 0};
        for (int what = 0; what < due.length; what++) {
            int asked = what;
            check.answers("count " + what, due[what], () -> x.count(asked));
        }
    }

    void objectsShareNothing() {
        Circuit first = Scenes.full();
        first.build();
        first.stick(39, 1);
        Circuit second = new Circuit();
        check.answers("nets", 40, () -> second.count(0));
        check.answers("cells", 0, () -> second.count(1));
        check.answers("not built", 0, () -> second.count(3));
        check.answers("all UNKNOWN", 40, () -> second.count(5));
        check.answers("template 0 is empty", 1, () -> second.part(0, NOT, 0, 1, 0, 0));
        check.answers("template 1 is empty", 1, () -> second.part(1, NOT, 0, 1, 0, 0));
        check.answers("it builds", 0, second::build);
        check.answers("none is stuck", 40, () -> second.count(6));
        check.answers("the first has its nets", 80, () -> first.count(0));
        check.answers("the first has its values", 1, () -> first.value(39));
    }

    // value

    void valueOfNetsAtTheirBounds() {
        for (int nets : new int[] {40, 41, 80}) {
            Circuit x = Scenes.nets(nets);
            for (int net : new int[] {0, nets - 1}) {
                check.answers("not settled yet, net " + net, 2, () -> x.value(net));
            }
            for (int wrong : new int[] {-1, nets, MIN, MAX}) {
                check.refuses("not built, net " + wrong, Check.ELEMENT, x, c -> c.value(wrong));
            }
            x.build();
            for (int net : new int[] {0, nets - 1}) {
                check.answers("settled, net " + net, 3, () -> x.value(net));
            }
            for (int wrong : new int[] {-1, nets, MIN, MAX}) {
                check.refuses("built, net " + wrong, Check.ELEMENT, x, c -> c.value(wrong));
            }
        }
    }

    void valueIsThatOfTheLastSettling() {
        Circuit x = Scenes.ports(1);
        x.build();
        x.set(0, 1);
        x.cell(NOT, 1, 0, 0, 0);
        x.part(0, NOT, 2, 0, 0, 0);
        x.instance(0, 0, 0);
        x.stick(0, 0);
        check.answers("net 0", 1, () -> x.value(0));
        check.answers("net 1, without drivers then", 3, () -> x.value(1));
        check.answers("net 40, not there then", 2, () -> x.value(40));
        x.build();
        check.answers("net 0", 0, () -> x.value(0));
        check.answers("net 1", 1, () -> x.value(1));
        check.answers("net 40", 1, () -> x.value(40));
    }

    // flips

    void flipsOfNetsAtTheirBounds() {
        for (int nets : new int[] {40, 41, 80}) {
            Circuit x = Scenes.nets(nets);
            for (int wrong : new int[] {-1, nets, MIN, MAX}) {
                check.refuses("not built, net " + wrong, Check.ELEMENT, x, c -> c.flips(wrong));
            }
            x.build();
            for (int net : new int[] {0, nets - 1}) {
                check.answers("none, net " + net, 0, () -> x.flips(net));
                x.stick(net, 0);
                x.stick(net, 1);
                check.answers("one, net " + net, 1, () -> x.flips(net));
                x.stick(net, 0);
                check.answers("two, net " + net, 2, () -> x.flips(net));
            }
            for (int wrong : new int[] {-1, nets, MIN, MAX}) {
                check.refuses("built, net " + wrong, Check.ELEMENT, x, c -> c.flips(wrong));
            }
        }
    }

    void flipsStayOverCellsAndInstances() {
        Circuit x = Scenes.ports(1);
        x.build();
        x.set(0, 0);
        x.set(0, 1);
        x.cell(PORT, 1, 0, 0, 0);
        check.answers("after a cell", 1, () -> x.flips(0));
        x.instance(0, 0, 0);
        check.answers("after an instance", 1, () -> x.flips(0));
        x.build();
        check.answers("after building", 1, () -> x.flips(0));
    }

    // state

    void stateOfCellsAtTheirBounds() {
        Circuit x = new Circuit();
        for (int wrong : new int[] {-1, 0, 60, MIN, MAX}) {
            check.refuses("no cell " + wrong, Check.ELEMENT, x, c -> c.state(wrong));
        }
        x.cell(REGISTER, 0, 5, 0, 1);
        check.answers("cell 0", 1, () -> x.state(0));
        check.refuses("cell 1", Check.ELEMENT, x, c -> c.state(1));
        Scenes.addTris(x, 58);
        x.cell(REGISTER, 1, 5, 0, 0);
        check.answers("cell 59", 0, () -> x.state(59));
        check.refuses("cell 60", Check.ELEMENT, x, c -> c.state(60));
        check.refuses("cell -1", Check.ELEMENT, x, c -> c.state(-1));
    }

    void stateOfEachKind() {
        for (int kind = PORT; kind <= REGISTER; kind++) {
            Circuit x = new Circuit();
            cell(x, fitting(kind, 3));
            for (int built = 0; built <= 1; built++) {
                if (kind < LATCH) {
                    check.refuses("kind " + kind, Check.ELEMENT, x, c -> c.state(0));
                } else {
                    check.answers("kind " + kind, kind == LATCH ? 2 : 0, () -> x.state(0));
                }
                x.build();
            }
        }
    }

    void stateOfCellsOutOfInstances() {
        Circuit x = new Circuit();
        x.part(0, NOT, 2, 0, 0, 0);
        x.part(0, REGISTER, 3, 0, 0, 1);
        x.instance(0, 0, 0);
        check.refuses("a part of a template is no cell", Check.ELEMENT, x, c -> c.state(2));
        check.refuses("the NOT", Check.ELEMENT, x, c -> c.state(0));
        check.answers("the register", 1, () -> x.state(1));
    }

    // count

    void countNumbersBeyondThem() {
        for (int what : new int[] {-1, 8, MIN, MAX}) {
            check.refuses("count " + what, Check.ARGUMENT, new Circuit(), c -> c.count(what));
            Circuit x = Scenes.full();
            x.build();
            check.refuses("count " + what + " of a full circuit", Check.ARGUMENT, x, c -> c.count(what));
        }
    }

    void countOfNetsAndCells() {
        Circuit x = new Circuit();
        check.answers("nets at first", 40, () -> x.count(0));
        x.part(0, NOT, 2, 3, 0, 0);
        x.part(0, REGISTER, 4, 3, 0, 0);
        check.answers("a template has none", 40, () -> x.count(0));
        check.answers("no cells", 0, () -> x.count(1));
        check.answers("no registers", 0, () -> x.count(2));
        x.instance(0, 0, 0);
        check.answers("nets with an instance", 43, () -> x.count(0));
        check.answers("cells with it", 2, () -> x.count(1));
        check.answers("registers with it", 1, () -> x.count(2));
        x.cell(LATCH, 0, 0, 0, 0);
        check.answers("nets with a cell", 43, () -> x.count(0));
        check.answers("cells with it", 3, () -> x.count(1));
        check.answers("a latch is no register", 1, () -> x.count(2));
        x.cell(REGISTER, 1, 0, 1, 0);
        check.answers("registers of both clocks", 2, () -> x.count(2));
    }

    void countOfWhetherItIsBuilt() {
        Circuit x = new Circuit();
        check.answers("new", 0, () -> x.count(3));
        x.build();
        check.answers("built", 1, () -> x.count(3));
        x.build();
        check.answers("built again", 1, () -> x.count(3));
        x.cell(NOT, 1, 0, 0, 0);
        check.answers("after a cell", 0, () -> x.count(3));
        x.build();
        check.answers("built", 1, () -> x.count(3));
        x.instance(0, 0, 0);
        check.answers("after an instance", 0, () -> x.count(3));
    }

    /** A net of each value, each told in its own count, and 0 and 1 in one. */
    void countOfValues() {
        Circuit x = Scenes.ports(4);
        check.answers("UNKNOWN before settling", 40, () -> x.count(5));
        x.build();
        counts(x, 0, 4, 36);
        x.set(0, 0);
        counts(x, 1, 3, 36);
        x.set(1, 1);
        counts(x, 2, 2, 36);
        x.set(2, 3);
        counts(x, 2, 1, 37);
        x.stick(39, 2);
        counts(x, 2, 2, 36);
        x.stick(39, 0);
        counts(x, 3, 1, 36);
    }

    private void counts(Circuit x, int known, int unknown, int floating) {
        check.answers("0 or 1", known, () -> x.count(4));
        check.answers("UNKNOWN", unknown, () -> x.count(5));
        check.answers("FLOATING", floating, () -> x.count(6));
    }

    void countOfFreshNetsBeforeTheySettle() {
        Circuit x = new Circuit();
        x.part(0, NOT, 2, 3, 0, 0);
        x.build();
        x.instance(0, 0, 0);
        counts(x, 0, 2, 40);
        x.build();
        counts(x, 0, 1, 41);
    }

    void countOfSettlings() {
        Circuit x = Scenes.ports(1);
        x.part(0, NOT, 2, 0, 0, 0);
        x.stick(0, 1);
        x.reset();
        check.answers("none before it is built", 0, () -> x.count(7));
        x.build();
        check.answers("build", 1, () -> x.count(7));
        x.build();
        check.answers("build again", 1, () -> x.count(7));
        x.set(0, 1);
        check.answers("set", 2, () -> x.count(7));
        x.tick(1);
        check.answers("tick", 3, () -> x.count(7));
        x.stick(5, -1);
        check.answers("stick that changes nothing", 4, () -> x.count(7));
        x.reset();
        check.answers("reset", 5, () -> x.count(7));
        x.instance(0, 0, 0);
        x.reset();
        x.stick(5, 1);
        check.answers("none when it is not built", 5, () -> x.count(7));
        x.build();
        check.answers("build after an instance", 6, () -> x.count(7));
    }
}
