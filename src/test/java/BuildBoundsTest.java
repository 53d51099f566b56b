/** Promises 5, 6 and 11 at their bounds: levels 0, 30 and 31, loops of every kind, and what building leaves. */
final class BuildBoundsTest extends Suite {
    public static void main(String[] args) throws ReflectiveOperationException {
        run(new BuildBoundsTest());
    }

    private static int[] gate(int kind, int out, int a, int b, int c) {
        return new int[] {kind, out, a, b, c};
    }

    private static Circuit of(int[]... cells) {
        Circuit x = new Circuit();
        for (int[] numbers : cells) {
            cell(x, numbers);
        }
        return x;
    }

    // Building.

    void noCellAtAll() {
        Circuit x = new Circuit();
        check.answers("the greatest level", 0, x::build);
        check.answers("it is built", 1, () -> x.count(3));
        check.answers("it settled", 1, () -> x.count(7));
        for (int net = 0; net < 40; net++) {
            int asked = net;
            check.answers("level " + net, 0, () -> x.level(asked));
            check.answers("value " + net, 3, () -> x.value(asked));
        }
    }

    void builtBeforeItDoesNotSettle() {
        Circuit x = Scenes.chain(3);
        check.answers("first", 3, x::build);
        check.answers("again", 3, x::build);
        check.answers("settlings", 1, () -> x.count(7));
    }

    void builtBeforeIsNotEndedByOtherCalls() {
        Circuit x = of(gate(PORT, 0, 0, 0, 0), gate(REGISTER, 1, 0, 0, 0), gate(NOT, 2, 1, 0, 0));
        x.build();
        x.set(0, 1);
        x.tick(0);
        x.stick(5, 1);
        x.part(0, NOT, 2, 0, 0, 0);
        x.reset();
        check.refuses("a cell", Check.UNSUPPORTED, x, c -> c.cell(NOT, 0, 1, 0, 0));
        check.refuses("an instance", Check.ARGUMENT, x, c -> c.instance(0, 40, 0));
        check.answers("it is built", 1, () -> x.count(3));
        check.answers("the greatest level", 2, x::build);
        check.answers("settlings: build, set, tick, stick, reset", 5, () -> x.count(7));
    }

    void builtAgainAfterACellOrAnInstance() {
        Circuit x = new Circuit();
        x.build();
        x.cell(PORT, 0, 0, 0, 0);
        check.answers("after a cell", 1, x::build);
        check.answers("it settles", 2, () -> x.count(7));
        x.part(0, NOT, 1, 0, 0, 0);
        x.instance(0, 0, 1);
        check.answers("after an instance", 2, x::build);
        check.answers("it settles", 3, () -> x.count(7));
    }

    void aDriverBelowRaisesTheLevels() {
        Circuit x = of(gate(NOT, 1, 0, 0, 0), gate(NOT, 2, 1, 0, 0));
        check.answers("before", 2, x::build);
        x.cell(NOT, 0, 9, 0, 0);
        check.answers("with a driver below them", 3, x::build);
        check.answers("level 2", 3, () -> x.level(2));
    }

    void refusedBuildingLeavesTheOldValues() {
        Circuit x = Scenes.ports(1);
        x.build();
        x.set(0, 1);
        x.cell(NOT, 3, 3, 0, 0);
        check.refuses("a loop", Check.STATE, x, Circuit::build);
        check.answers("it is not built", 0, () -> x.count(3));
        check.answers("it did not settle", 2, () -> x.count(7));
        check.answers("the value of net 0", 1, () -> x.value(0));
        check.answers("the value of net 3", 3, () -> x.value(3));
        check.refuses("again", Check.STATE, x, Circuit::build);
        check.refuses("and so no set", Check.STATE, x, c -> c.set(0, 0));
        check.refuses("no tick", Check.STATE, x, c -> c.tick(0));
        check.refuses("no level", Check.STATE, x, c -> c.level(0));
    }

    // Levels 30 and 31.

    void level30() {
        Circuit x = Scenes.chain(30);
        check.answers("the greatest level", 30, x::build);
        check.answers("net 30", 30, () -> x.level(30));
        check.answers("net 29", 29, () -> x.level(29));
        check.answers("net 0", 0, () -> x.level(0));
    }

    void level31() {
        Circuit x = Scenes.chain(31);
        check.refuses("it does not build", Check.STATE, x, Circuit::build);
        check.refuses("there is no loop", Check.ELEMENT, x, Circuit::loop);
    }

    void level31OfEachKindAndInput() {
        for (int kind = NOT; kind <= LATCH; kind++) {
            for (int place = 2; place <= 4; place++) {
                if (USES[kind].charAt(place - 2) == 'n') {
                    int[] last = with(gate(kind, 35, 36, 37, 38), place, 29);
                    Circuit fits = Scenes.chain(29);
                    cell(fits, last);
                    check.answers("level 30 by " + told(last), 30, fits::build);
                    Circuit not = Scenes.chain(30);
                    check.equal("it had been 30", 30, not.build());
                    int[] above = with(last, place, 30);
                    cell(not, above);
                    check.refuses("level 31 by " + told(above), Check.STATE, not, Circuit::build);
                }
            }
        }
    }

    void aRegisterBehindLevel30HasLevel1() {
        Circuit x = Scenes.chain(30);
        x.cell(REGISTER, 31, 30, 0, 0);
        check.answers("the greatest level", 30, x::build);
        check.answers("the register's net", 1, () -> x.level(31));
    }

    void aPortOrRegisterBelowMakesItOneMore() {
        for (int[] first : new int[][] {gate(PORT, 0, 0, 0, 0), gate(REGISTER, 0, 5, 0, 0)}) {
            Circuit fits = Scenes.chain(29);
            cell(fits, first);
            check.answers("29 behind it", 30, fits::build);
            Circuit not = Scenes.chain(30);
            cell(not, first);
            check.refuses("30 behind it", Check.STATE, not, Circuit::build);
        }
    }

    void levels30And31ThatWereMadeBackward() {
        for (int length = 30; length <= 31; length++) {
            Circuit x = new Circuit();
            for (int i = length; i > 0; i--) {
                x.cell(NOT, i, i - 1, 0, 0);
            }
            check.equal(length + " backward", length == 30 ? "30" : "IllegalStateException", Check.outcome(x::build));
        }
    }

    void level31ByAnyDriverOfASharedNet() {
        for (int driver = 0; driver < 3; driver++) {
            Circuit fits = Scenes.chain(29);
            Circuit not = Scenes.chain(30);
            for (int i = 0; i < 3; i++) {
                fits.cell(TRI, 35, 36, i == driver ? 29 : 37, 0);
                not.cell(TRI, 35, 36, i == driver ? 30 : 37, 0);
            }
            check.answers("level 30 by driver " + driver, 30, fits::build);
            check.refuses("level 31 by driver " + driver, Check.STATE, not, Circuit::build);
        }
    }

    /** Three instances of nine or ten NOTs, each behind the last. */
    void levels30And31OutOfInstances() {
        Circuit x = new Circuit();
        x.part(0, NOT, 2, 0, 0, 0);
        for (int local = 2; local < 9; local++) {
            x.part(0, NOT, local + 1, local, 0, 0);
        }
        x.part(0, NOT, 1, 9, 0, 0);
        for (int i = 0; i < 3; i++) {
            x.instance(0, i, i + 1);
        }
        check.answers("27 levels", 27, x::build);
        for (int i = 3; i < 6; i++) {
            x.cell(NOT, i + 1, i, 0, 0);
        }
        check.answers("30 levels", 30, x::build);
        x.part(1, NOT, 2, 0, 0, 0);
        x.instance(1, 6, 0);
        check.refuses("31 levels", Check.STATE, x, Circuit::build);
    }

    void sixtyCellsInAChain() {
        Circuit x = new Circuit();
        x.part(0, NOT, 2, 0, 0, 0);
        x.instance(0, 0, 0);
        for (int net = 40; net < 79; net++) {
            x.instance(0, net, 0);
        }
        for (int i = 0; i < 20; i++) {
            x.cell(NOT, i, i + 1, 0, 0);
        }
        check.answers("60 cells", 60, () -> x.count(1));
        check.refuses("level 60", Check.STATE, x, Circuit::build);
        check.refuses("there is no loop", Check.ELEMENT, x, Circuit::loop);
    }

    void sixtyCellsOfLevel30() {
        Circuit x = Scenes.chain(30);
        for (int i = 0; i < 30; i++) {
            x.cell(TRI, 39, i, i % 2 == 0 ? i : 29 - i, 0);
        }
        check.answers("60 cells", 60, () -> x.count(1));
        check.answers("they build", 30, x::build);
        check.answers("the shared net", 30, () -> x.level(39));
    }

    void aStuckNetCutsNoLevel() {
        Circuit x = Scenes.chain(31);
        x.stick(15, 0);
        check.refuses("31 with a stuck net", Check.STATE, x, Circuit::build);
        Circuit y = Scenes.chain(30);
        y.stick(30, 0);
        y.stick(0, 0);
        check.answers("30 with stuck nets", 30, y::build);
        check.answers("a stuck net without drivers", 0, () -> y.level(0));
        check.answers("a stuck net behind 30", 30, () -> y.level(30));
    }

    void aLoopAndALevelAbove30() {
        Circuit x = Scenes.chain(31);
        x.cell(NOT, 38, 38, 0, 0);
        check.refuses("it does not build", Check.STATE, x, Circuit::build);
        check.answers("the loop is found", 38, x::loop);
    }

    // Levels below.

    void levelsOfNetsByTheirDrivers() {
        Circuit x = of(gate(PORT, 1, 0, 0, 0), gate(REGISTER, 2, 3, 0, 0), gate(NOT, 3, 0, 0, 0), gate(NOT, 4, 1, 0, 0),
                gate(AND, 5, 4, 0, 0), gate(AND, 6, 0, 4, 0), gate(MUX, 7, 0, 0, 5));
        check.answers("the greatest", 4, x::build);
        int[] due = {0, 1, 1, 1, 2, 3, 3, 4};
        for (int net = 0; net < due.length; net++) {
            int asked = net;
            check.answers("level " + net, due[net], () -> x.level(asked));
        }
    }

    void unusedNumbersAreNoDependence() {
        Circuit x = of(gate(PORT, 0, 0, 0, 0), gate(NOT, 1, 9, 1, 1), gate(AND, 2, 9, 9, 2), gate(REGISTER, 3, 9, 1, 1),
                gate(LATCH, 4, 9, 9, 4), gate(PORT, 5, 5, 5, 5), gate(TRI, 6, 9, 9, 6), gate(REGISTER, 7, 7, 0, 0));
        check.refuses("there is no loop", Check.ELEMENT, x, Circuit::loop);
        check.answers("all of level 1", 1, x::build);
    }

    void levelNetsAtTheirBounds() {
        for (int nets : new int[] {40, 41, 80}) {
            Circuit x = Scenes.nets(nets);
            x.build();
            check.answers("net 0 of " + nets, 0, () -> x.level(0));
            check.answers("the last of " + nets, 0, () -> x.level(nets - 1));
            for (int wrong : new int[] {-1, nets, MIN, MAX}) {
                check.refuses("net " + wrong, Check.ELEMENT, x, c -> c.level(wrong));
            }
        }
    }

    void levelOfNoNetComesBeforeNotBuilt() {
        for (int nets : new int[] {40, 41, 80}) {
            Circuit x = Scenes.nets(nets);
            check.refuses("not built", Check.STATE, x, c -> c.level(0));
            check.refuses("not built", Check.STATE, x, c -> c.level(nets - 1));
            check.refuses("not built, and no net", Check.ELEMENT, x, c -> c.level(-1));
            check.refuses("not built, and no net", Check.ELEMENT, x, c -> c.level(nets));
        }
    }

    void levelEndsWithACellOrAnInstance() {
        Circuit x = Scenes.chain(2);
        x.build();
        x.cell(PORT, 20, 0, 0, 0);
        check.refuses("after a cell", Check.STATE, x, c -> c.level(1));
        x.build();
        check.answers("built again", 2, () -> x.level(2));
        x.instance(0, 0, 0);
        check.refuses("after an instance without cells", Check.STATE, x, c -> c.level(1));
    }

    // Loops.

    void noLoop() {
        check.refuses("no cell", Check.ELEMENT, new Circuit(), Circuit::loop);
        check.refuses("ports alone", Check.ELEMENT, Scenes.ports(40), Circuit::loop);
        check.refuses("a chain", Check.ELEMENT, Scenes.chain(30), Circuit::loop);
        Circuit built = Scenes.chain(30);
        built.build();
        check.refuses("a built circuit", Check.ELEMENT, built, Circuit::loop);
        check.refuses("a full circuit", Check.ELEMENT, Scenes.full(), Circuit::loop);
        Circuit template = new Circuit();
        template.part(0, NOT, 2, 2, 0, 0);
        check.refuses("a loop in a template alone", Check.ELEMENT, template, Circuit::loop);
    }

    void aCellOnItselfOfEachKindAndInput() {
        for (int kind = NOT; kind <= LATCH; kind++) {
            for (int place = 2; place <= 4; place++) {
                if (USES[kind].charAt(place - 2) == 'n') {
                    int[] numbers = with(gate(kind, 35, 36, 37, 38), place, 35);
                    Circuit x = of(numbers);
                    check.answers(told(numbers), 35, x::loop);
                    check.refuses(told(numbers), Check.STATE, x, Circuit::build);
                }
            }
        }
    }

    void aCellOnItselfAmongFreshNets() {
        for (int kind = NOT; kind <= LATCH; kind++) {
            for (int place = 2; place <= 4; place++) {
                if (USES[kind].charAt(place - 2) == 'n') {
                    int[] numbers = with(gate(kind, 9, 2, 3, 4), place, 9);
                    Circuit x = new Circuit();
                    part(x, 0, numbers);
                    int last = x.instance(0, 0, 1) - 1;
                    check.answers(told(numbers), last, x::loop);
                    check.refuses(told(numbers), Check.STATE, x, Circuit::build);
                }
            }
        }
    }

    void aLoopOverFirstAndFreshNets() {
        Circuit x = new Circuit();
        x.part(0, AND, 1, 2, 3, 0);
        x.part(0, NOT, 2, 0, 0, 0);
        x.instance(0, 30, 31);
        check.refuses("open, it is no loop", Check.ELEMENT, x, Circuit::loop);
        x.cell(NOT, 30, 31, 0, 0);
        check.answers("closed, it is", 30, x::loop);
        check.refuses("it does not build", Check.STATE, x, Circuit::build);
    }

    void aRegisterOrPortEndsALoop() {
        Circuit self = of(gate(REGISTER, 3, 3, 0, 0));
        check.refuses("a register on itself", Check.ELEMENT, self, Circuit::loop);
        check.answers("it builds", 1, self::build);
        Circuit ring = of(gate(NOT, 1, 2, 0, 0), gate(NOT, 2, 3, 0, 0), gate(REGISTER, 3, 1, 0, 0));
        check.refuses("a ring with a register", Check.ELEMENT, ring, Circuit::loop);
        check.answers("it builds", 3, ring::build);
        Circuit port = of(gate(NOT, 1, 2, 0, 0), gate(PORT, 2, 1, 1, 1));
        check.refuses("a ring with a port", Check.ELEMENT, port, Circuit::loop);
        check.answers("it builds", 2, port::build);
    }

    void loopsAtTheFirstAndTheLastNet() {
        for (int net : new int[] {0, 39}) {
            check.answers("net " + net, net, () -> of(gate(NOT, net, net, 0, 0)).loop());
        }
        for (int net : new int[] {40, 79}) {
            Circuit x = new Circuit();
            x.part(0, TRI, 0, 2, 3, 0);
            x.part(0, TRI, 0, 4, 5, 0);
            x.part(0, TRI, 0, 6, 7, 0);
            x.part(0, TRI, 0, 8, 9, 0);
            for (int i = 0; i < 5; i++) {
                x.instance(0, 0, 0);
            }
            x.cell(NOT, net, net, 0, 0);
            check.answers("net " + net, net, x::loop);
            check.refuses("it does not build", Check.STATE, x, Circuit::build);
        }
    }

    void theLeastOfALoop() {
        check.answers("0 and 39", 0, () -> of(gate(NOT, 39, 0, 0, 0), gate(NOT, 0, 39, 0, 0)).loop());
        check.answers("7, 9, 8", 7, () -> of(gate(NOT, 8, 9, 0, 0), gate(NOT, 9, 7, 0, 0), gate(NOT, 7, 8, 0, 0)).loop());
    }

    void theLeastOfSeveralLoops() {
        Circuit x = of(gate(NOT, 30, 30, 0, 0));
        check.answers("one", 30, x::loop);
        x.cell(NOT, 35, 35, 0, 0);
        check.answers("a greater one", 30, x::loop);
        x.cell(NOT, 20, 20, 0, 0);
        check.answers("a lesser one", 20, x::loop);
    }

    void netsBeforeOrBehindALoopAreNone() {
        Circuit x = of(gate(NOT, 1, 0, 0, 0), gate(AND, 10, 1, 11, 0), gate(NOT, 11, 10, 0, 0), gate(NOT, 2, 11, 0, 0));
        check.answers("10 is the least", 10, x::loop);
        Circuit between = of(gate(NOT, 20, 20, 0, 0), gate(NOT, 3, 20, 0, 0), gate(AND, 21, 21, 3, 0));
        check.answers("between two loops", 20, between::loop);
    }

    void aLoopThroughAnyDriverOfASharedNet() {
        for (int driver = 0; driver < 3; driver++) {
            Circuit x = of(gate(NOT, 9, 8, 0, 0));
            for (int i = 0; i < 3; i++) {
                x.cell(TRI, 8, 1, i == driver ? 9 : 2, 0);
            }
            check.answers("driver " + driver, 8, x::loop);
            check.refuses("driver " + driver, Check.STATE, x, Circuit::build);
        }
    }

    /** All 60 cells in one ring: nets 40 to 79 out of instances, then 0 to 19. */
    void aLoopOfSixtyNets() {
        Circuit x = new Circuit();
        x.part(0, NOT, 2, 0, 0, 0);
        x.instance(0, 19, 0);
        for (int net = 40; net < 79; net++) {
            x.instance(0, net, 0);
        }
        x.cell(NOT, 0, 79, 0, 0);
        for (int net = 0; net < 18; net++) {
            x.cell(NOT, net + 1, net, 0, 0);
        }
        check.answers("59 cells", 59, () -> x.count(1));
        check.refuses("open, it is no loop", Check.ELEMENT, x, Circuit::loop);
        x.cell(NOT, 19, 18, 0, 0);
        check.answers("closed, it is", 0, x::loop);
        check.refuses("it does not build", Check.STATE, x, Circuit::build);
    }

    void aLoopOfFreshNets() {
        Circuit x = new Circuit();
        x.part(0, NOT, 9, 2, 0, 0);
        x.part(0, NOT, 2, 9, 0, 0);
        x.instance(0, 0, 1);
        check.answers("the least fresh net", 40, x::loop);
        Circuit y = new Circuit();
        y.part(0, NOT, 0, 1, 0, 0);
        y.instance(0, 5, 5);
        check.answers("where x is y", 5, y::loop);
    }

    void aStuckNetIsALoopAllTheSame() {
        Circuit x = of(gate(NOT, 3, 4, 0, 0), gate(NOT, 4, 3, 0, 0));
        x.stick(3, 0);
        x.stick(4, 1);
        check.answers("the loop", 3, x::loop);
        check.refuses("it does not build", Check.STATE, x, Circuit::build);
    }

    void askingForALoopChangesNothing() {
        Circuit x = Scenes.chain(3);
        x.build();
        check.refuses("none", Check.ELEMENT, x, Circuit::loop);
        check.answers("it is built", 1, () -> x.count(3));
        check.answers("level 3", 3, () -> x.level(3));
        x.cell(NOT, 9, 9, 0, 0);
        Circuit twin = x.twin();
        check.answers("one", 9, x::loop);
        check.answers("asked again", 9, x::loop);
        check.equal("all else", Picture.of(twin), Picture.of(x));
    }
}
