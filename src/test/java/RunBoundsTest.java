/** Promises 7, 8, 9 and 14 at their bounds: set, tick, stick and reset. */
final class RunBoundsTest extends Suite {
    public static void main(String[] args) throws ReflectiveOperationException {
        run(new RunBoundsTest());
    }

    /** A cell of each kind, number and net by kind. */
    private static Circuit ofEachKind() {
        Circuit x = new Circuit();
        for (int kind = PORT; kind <= REGISTER; kind++) {
            cell(x, with(with(fitting(kind, kind), 2, 30), 3, kind == REGISTER ? 0 : 31));
        }
        return x;
    }

    // set

    void setEachValue() {
        for (int value = 0; value <= 3; value++) {
            int given = value;
            Circuit x = Scenes.ports(1);
            x.build();
            check.answers("value " + value, given, () -> x.set(0, given));
            check.answers("its net", given, () -> x.value(0));
            check.answers("it settled", 2, () -> x.count(7));
        }
    }

    void setValuesBeyondThem() {
        for (int value : new int[] {-1, 4, MIN, MAX}) {
            Circuit x = Scenes.ports(1);
            x.build();
            x.set(0, 1);
            check.refuses("value " + value, Check.ARGUMENT, x, c -> c.set(0, value));
        }
    }

    void setTheFirstAndTheLastCell() {
        Circuit x = Scenes.ports(40);
        x.build();
        check.answers("cell 0", 1, () -> x.set(0, 1));
        check.answers("cell 39", 0, () -> x.set(39, 0));
        check.answers("net 0", 1, () -> x.value(0));
        check.answers("net 39", 0, () -> x.value(39));
        check.answers("no other", 2, () -> x.count(4));
    }

    void setThe60thCell() {
        Circuit x = new Circuit();
        Scenes.addTris(x, 59);
        x.cell(PORT, 9, 0, 0, 0);
        x.build();
        check.answers("cell 59", 1, () -> x.set(59, 1));
        check.refuses("cell 60", Check.ELEMENT, x, c -> c.set(60, 1));
    }

    void setCellsThatAreNot() {
        for (int cells : new int[] {0, 1, 40}) {
            for (int wrong : new int[] {-1, cells, 60, MIN, MAX}) {
                Circuit x = Scenes.ports(cells);
                x.build();
                check.refuses("cell " + wrong + " of " + cells, Check.ELEMENT, x, c -> c.set(wrong, 1));
            }
        }
    }

    void setCellsOfOtherKinds() {
        for (int kind = NOT; kind <= REGISTER; kind++) {
            int given = kind;
            Circuit x = ofEachKind();
            x.build();
            check.refuses("kind " + kind, Check.ELEMENT, x, c -> c.set(given, 1));
        }
    }

    void setNotBuilt() {
        Circuit x = Scenes.ports(1);
        check.refuses("never built", Check.STATE, x, c -> c.set(0, 1));
        x.build();
        x.cell(NOT, 1, 0, 0, 0);
        check.refuses("after a cell", Check.STATE, x, c -> c.set(0, 1));
        x.build();
        x.instance(0, 0, 0);
        check.refuses("after an instance", Check.STATE, x, c -> c.set(0, 1));
        x.build();
        check.answers("it was never set", 2, () -> x.value(0));
    }

    void setNoPortComesFirst() {
        for (int wrong : new int[] {-1, NOT, REGISTER, 9}) {
            Circuit x = ofEachKind();
            check.refuses("not built, cell " + wrong, Check.ELEMENT, x, c -> c.set(wrong, 1));
            check.refuses("not built, no value, cell " + wrong, Check.ELEMENT, x, c -> c.set(wrong, 4));
            x.build();
            check.refuses("no value, cell " + wrong, Check.ELEMENT, x, c -> c.set(wrong, -1));
        }
    }

    void setNoValueComesBeforeNotBuilt() {
        for (int value : new int[] {-1, 4}) {
            check.refuses("value " + value, Check.ARGUMENT, Scenes.ports(1), c -> c.set(0, value));
        }
    }

    void setAPortWhoseNetIsStuck() {
        Circuit x = Scenes.ports(1);
        x.build();
        for (int stuck = 0; stuck <= 2; stuck++) {
            int due = stuck;
            x.stick(0, stuck);
            for (int value = 0; value <= 3; value++) {
                int given = value;
                check.answers("stuck at " + stuck, due, () -> x.set(0, given));
            }
        }
        x.stick(0, -1);
        check.answers("what it was set to last", 3, () -> x.value(0));
    }

    void setToWhatItIsSettlesAllTheSame() {
        Circuit x = Scenes.ports(1);
        x.build();
        x.set(0, 1);
        x.set(0, 1);
        check.answers("settlings", 3, () -> x.count(7));
        check.answers("turns", 0, () -> x.flips(0));
    }

    // tick

    void tickBothClocks() {
        for (int clock = 0; clock <= 1; clock++) {
            int own = clock;
            Circuit x = new Circuit();
            x.cell(REGISTER, 0, 9, clock, 1);
            x.build();
            x.stick(9, 0);
            check.answers("the other clock", 0, () -> x.tick(1 - own));
            check.answers("its state is as it was", 1, () -> x.state(0));
            check.answers("its clock", 1, () -> x.tick(own));
            check.answers("its state", 0, () -> x.state(0));
        }
    }

    void tickClocksBeyondThem() {
        for (int clock : new int[] {-1, 2, MIN, MAX}) {
            Circuit x = new Circuit();
            x.cell(REGISTER, 0, 9, 0, 1);
            x.cell(REGISTER, 1, 9, 1, 0);
            check.refuses("not built, clock " + clock, Check.ARGUMENT, x, c -> c.tick(clock));
            x.build();
            check.refuses("clock " + clock, Check.ARGUMENT, x, c -> c.tick(clock));
        }
    }

    void tickNotBuilt() {
        for (int clock = 0; clock <= 1; clock++) {
            int given = clock;
            Circuit x = new Circuit();
            x.cell(REGISTER, 0, 9, clock, 1);
            check.refuses("never built", Check.STATE, x, c -> c.tick(given));
            x.build();
            x.cell(PORT, 5, 0, 0, 0);
            check.refuses("after a cell", Check.STATE, x, c -> c.tick(given));
            x.build();
            x.instance(1, 0, 0);
            check.refuses("after an instance", Check.STATE, x, c -> c.tick(given));
            check.answers("its state", 1, () -> x.state(0));
        }
    }

    void tickWithoutRegisters() {
        Circuit x = new Circuit();
        x.build();
        check.answers("clock 0", 0, () -> x.tick(0));
        check.answers("clock 1", 0, () -> x.tick(1));
        check.answers("each settles", 3, () -> x.count(7));
    }

    /** From each state to each input: how many states changed, and what they are. */
    void tickEachStateAndInput() {
        for (int state = 0; state <= 2; state++) {
            for (int input = 0; input <= 3; input++) {
                Circuit x = Scenes.ports(1);
                x.cell(REGISTER, 5, 0, 0, state);
                x.build();
                x.set(0, input);
                int due = input == 3 ? 2 : input;
                check.answers(state + " to " + input, due == state ? 0 : 1, () -> x.tick(0));
                check.answers("its state", due, () -> x.state(1));
                check.answers("its net", due, () -> x.value(5));
            }
        }
    }

    void tickFortyRegistersAtOnce() {
        Circuit x = new Circuit();
        for (int i = 0; i < 40; i++) {
            x.cell(REGISTER, i, (i + 1) % 40, 0, i % 2);
        }
        x.build();
        check.answers("all change", 40, () -> x.tick(0));
        check.answers("cell 0", 1, () -> x.state(0));
        check.answers("cell 39", 0, () -> x.state(39));
        check.answers("none of the other clock", 0, () -> x.tick(1));
        check.answers("all turn back", 40, () -> x.tick(0));
        check.answers("turns", 80, x::reset);
    }

    void tickSixtyRegisters() {
        Circuit x = new Circuit();
        x.part(0, REGISTER, 2, 0, 1, 1);
        x.part(0, REGISTER, 3, 0, 1, 1);
        for (int i = 0; i < 20; i++) {
            x.instance(0, 30, 0);
            x.cell(REGISTER, i, 30, 1, 1);
        }
        check.answers("registers", 60, () -> x.count(2));
        x.build();
        check.answers("all take UNKNOWN", 60, () -> x.tick(1));
        check.answers("the last cell", 2, () -> x.state(59));
        check.answers("the last net", 2, () -> x.value(79));
        check.answers("once", 0, () -> x.tick(1));
    }

    void tickTakesAChainOneStepEach() {
        Circuit x = Scenes.ports(1);
        x.cell(REGISTER, 1, 0, 0, 0);
        x.cell(REGISTER, 2, 1, 0, 0);
        x.cell(REGISTER, 3, 2, 0, 0);
        x.build();
        x.set(0, 1);
        for (int i = 1; i <= 3; i++) {
            int last = i;
            check.answers("step " + i, 1, () -> x.tick(0));
            check.answers("net " + i, 1, () -> x.value(last));
            check.answers("no further", i == 3 ? 3 : 0, () -> x.value(last + 1));
        }
    }

    void tickARegisterWhoseNetIsStuck() {
        Circuit x = Scenes.ports(1);
        x.cell(REGISTER, 1, 0, 0, 0);
        x.build();
        x.set(0, 1);
        x.stick(1, 0);
        check.answers("its state changes behind it", 1, () -> x.tick(0));
        check.answers("its net", 0, () -> x.value(1));
        check.answers("its state", 1, () -> x.state(1));
        x.stick(1, -1);
        check.answers("its net then", 1, () -> x.value(1));
    }

    void tickTakesAStuckInput() {
        Circuit x = Scenes.ports(1);
        x.cell(REGISTER, 1, 0, 0, 0);
        x.build();
        x.set(0, 0);
        x.stick(0, 1);
        check.answers("changed", 1, () -> x.tick(0));
        check.answers("its state", 1, () -> x.state(1));
    }

    // stick

    void stickAtEachValue() {
        for (int value = 0; value <= 2; value++) {
            int given = value;
            Circuit x = new Circuit();
            x.build();
            check.answers("at " + value, 1, () -> x.stick(9, given));
            check.answers("its value", given, () -> x.value(9));
            check.answers("at it again", 0, () -> x.stick(9, given));
            check.answers("no more", 1, () -> x.stick(9, -1));
            check.answers("its value then", 3, () -> x.value(9));
            check.answers("no more again", 0, () -> x.stick(9, -1));
            check.answers("each settled", 5, () -> x.count(7));
        }
    }

    void stickFromEachToEach() {
        for (int from = -1; from <= 2; from++) {
            for (int to = -1; to <= 2; to++) {
                Circuit x = new Circuit();
                x.build();
                x.stick(9, from);
                int value = to;
                check.answers(from + " to " + to, from == to ? 0 : 1, () -> x.stick(9, value));
                check.answers("its value", to == -1 ? 3 : to, () -> x.value(9));
            }
        }
    }

    void stickAtWhatItIsChangesThatItIsStuck() {
        Circuit x = Scenes.ports(1);
        x.build();
        x.set(0, 1);
        check.answers("at 1", 1, () -> x.stick(0, 1));
        check.answers("no other value for it", 1, () -> x.set(0, 0));
        check.answers("again", 0, () -> x.stick(0, 1));
        x.set(0, 1);
        check.answers("no more", 1, () -> x.stick(0, -1));
    }

    void stickValuesBeyondThem() {
        for (int value : new int[] {-2, 3, 4, MIN, MAX}) {
            Circuit x = new Circuit();
            x.stick(9, 1);
            check.refuses("not built, at " + value, Check.ARGUMENT, x, c -> c.stick(9, value));
            check.refuses("not built, no more stuck than before", Check.ARGUMENT, x, c -> c.stick(8, value));
            x.build();
            check.refuses("built, at " + value, Check.ARGUMENT, x, c -> c.stick(9, value));
            check.answers("its value", 1, () -> x.value(9));
        }
    }

    void stickNetsAtTheirBounds() {
        for (int nets : new int[] {40, 41, 80}) {
            for (int net : new int[] {0, nets - 1}) {
                Circuit x = Scenes.nets(nets);
                check.answers("net " + net + ", not built", 1, () -> x.stick(net, 1));
                x.build();
                check.answers("its value", 1, () -> x.value(net));
                check.answers("net " + net + ", built", 1, () -> x.stick(net, 0));
                check.answers("its value", 0, () -> x.value(net));
            }
            for (int wrong : new int[] {-1, nets, MIN, MAX}) {
                Circuit x = Scenes.nets(nets);
                check.refuses("net " + wrong + ", not built", Check.ELEMENT, x, c -> c.stick(wrong, 1));
                x.build();
                check.refuses("net " + wrong + ", built", Check.ELEMENT, x, c -> c.stick(wrong, 1));
                check.refuses("net " + wrong + ", no more", Check.ELEMENT, x, c -> c.stick(wrong, -1));
            }
        }
    }

    void stickNoNetComesBeforeNoValue() {
        for (int net : new int[] {-1, 40}) {
            for (int value : new int[] {-2, 3}) {
                Circuit x = new Circuit();
                check.refuses("not built", Check.ELEMENT, x, c -> c.stick(net, value));
                x.build();
                check.refuses("built", Check.ELEMENT, x, c -> c.stick(net, value));
            }
        }
    }

    void stickNotBuiltDoesNotSettle() {
        Circuit x = Scenes.ports(1);
        check.answers("never built", 1, () -> x.stick(0, 1));
        check.answers("it is not built", 0, () -> x.count(3));
        check.answers("no settling", 0, () -> x.count(7));
        check.answers("no value", 2, () -> x.value(0));
        x.build();
        check.answers("its value then", 1, () -> x.value(0));
        x.cell(PORT, 5, 0, 0, 0);
        check.answers("after a cell", 1, () -> x.stick(0, 0));
        check.answers("the last settled value", 1, () -> x.value(0));
        check.answers("no settling", 1, () -> x.count(7));
        x.build();
        check.answers("its value then", 0, () -> x.value(0));
        check.answers("it turned", 1, () -> x.flips(0));
    }

    void stickEveryNet() {
        Circuit x = Scenes.full();
        x.build();
        for (int net = 0; net < 80; net++) {
            int given = net;
            check.answers("net " + net, 1, () -> x.stick(given, given % 3));
        }
        for (int net = 0; net < 80; net++) {
            int given = net;
            check.answers("net " + net, given % 3, () -> x.value(given));
        }
        check.answers("0 or 1", 54, () -> x.count(4));
        check.answers("UNKNOWN", 26, () -> x.count(5));
    }

    // reset

    void resetOfANewObject() {
        Circuit x = new Circuit();
        Circuit twin = x.twin();
        check.answers("turns", 0, x::reset);
        check.equal("all is as new", Picture.of(twin), Picture.of(x));
    }

    void resetOfABuiltCircuitWithoutCells() {
        Circuit x = new Circuit();
        x.build();
        check.answers("turns", 0, x::reset);
        check.answers("it is built", 1, () -> x.count(3));
        check.answers("it settles", 2, () -> x.count(7));
        check.answers("all float", 40, () -> x.count(6));
    }

    void resetNotBuilt() {
        Circuit x = Scenes.ports(2);
        x.cell(REGISTER, 2, 0, 0, 1);
        x.cell(LATCH, 3, 0, 1, 0);
        x.build();
        x.set(0, 1);
        x.set(1, 1);
        x.set(0, 0);
        x.tick(0);
        x.stick(9, 1);
        x.cell(PORT, 20, 0, 0, 0);
        check.answers("turns: nets 0, 2 and 3", 3, x::reset);
        check.answers("it is not built", 0, () -> x.count(3));
        check.answers("it does not settle", 6, () -> x.count(7));
        check.answers("all values UNKNOWN", 40, () -> x.count(5));
        check.answers("the register", 1, () -> x.state(2));
        check.answers("the latch", 2, () -> x.state(3));
        for (int net = 0; net < 40; net++) {
            int asked = net;
            check.answers("flips " + net, 0, () -> x.flips(asked));
        }
        x.build();
        check.answers("none is stuck", 3, () -> x.value(9));
        check.answers("ports stay", 0, () -> x.value(0));
        check.answers("ports stay", 1, () -> x.value(1));
        check.answers("no turns", 0, x::reset);
    }

    void resetSettlesWithoutTurns() {
        Circuit x = Scenes.ports(1);
        x.cell(NOT, 1, 0, 0, 0);
        x.cell(REGISTER, 2, 0, 0, 0);
        x.build();
        x.set(0, 1);
        x.tick(0);
        x.stick(0, 0);
        check.answers("turns: the register's net, the port's and the NOT's", 3, x::reset);
        check.answers("the port's net turned back", 1, () -> x.value(0));
        check.answers("the NOT's too", 0, () -> x.value(1));
        check.answers("the register's", 0, () -> x.value(2));
        for (int net = 0; net <= 2; net++) {
            int asked = net;
            check.answers("no turn of net " + net, 0, () -> x.flips(asked));
        }
        check.answers("none in all", 0, x::reset);
    }

    void resetEachFirstState() {
        for (int state = 0; state <= 2; state++) {
            for (int input = 0; input <= 2; input++) {
                Circuit x = Scenes.ports(1);
                x.cell(REGISTER, 5, 0, 1, state);
                x.build();
                x.set(0, input);
                x.tick(1);
                x.reset();
                int first = state;
                check.answers("its state", first, () -> x.state(1));
                check.answers("its net", first, () -> x.value(5));
            }
        }
    }

    void resetOfALatchThatIsOpen() {
        Circuit x = Scenes.ports(2);
        x.cell(LATCH, 5, 0, 1, 0);
        x.build();
        x.set(0, 1);
        x.set(1, 1);
        x.reset();
        check.answers("settled again, it has its input", 1, () -> x.state(2));
        x.set(1, 0);
        check.answers("and keeps it", 1, () -> x.state(2));
        x.reset();
        check.answers("closed, it is UNKNOWN", 2, () -> x.state(2));
        check.answers("on its net", 2, () -> x.value(5));
    }

    void resetTurnsOfNetsOutOfInstances() {
        Circuit x = Scenes.nets(80);
        x.build();
        x.stick(79, 0);
        x.stick(79, 1);
        x.stick(0, 1);
        x.stick(0, 0);
        check.answers("turns", 2, x::reset);
        check.answers("net 79", 3, () -> x.value(79));
        check.answers("net 79 has not turned", 0, () -> x.flips(79));
    }

    void resetTwice() {
        Circuit x = Scenes.ports(1);
        x.build();
        x.set(0, 0);
        x.set(0, 1);
        check.answers("first", 1, x::reset);
        check.answers("again", 0, x::reset);
        x.set(0, 0);
        check.answers("turns since", 1, x::reset);
    }

    void resetLeavesCellsNetsAndLevels() {
        Circuit x = Scenes.full();
        x.build();
        int level = x.level(40);
        x.reset();
        check.answers("nets", 80, () -> x.count(0));
        check.answers("cells", 60, () -> x.count(1));
        check.answers("registers", 5, () -> x.count(2));
        check.answers("built", 1, () -> x.count(3));
        check.answers("levels", level, () -> x.level(40));
    }
}
