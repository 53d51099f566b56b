/** Promise 4 at its bounds: templates and nets, fresh nets, drivers, 60 cells, 80 nets, and the order of testing. */
final class InstanceBoundsTest extends Suite {
    public static void main(String[] args) throws ReflectiveOperationException {
        run(new InstanceBoundsTest());
    }

    /** Adds parts {kind, out, a, b, c} to template 0. */
    private static Circuit template(int[]... parts) {
        Circuit x = new Circuit();
        for (int[] numbers : parts) {
            part(x, 0, numbers);
        }
        return x;
    }

    /** Template 0 has so many TRIs on local net 0 and names no other net but 1. */
    private static Circuit tris(int parts) {
        Circuit x = new Circuit();
        for (int i = 0; i < parts; i++) {
            x.part(0, TRI, 0, 1, 1, 0);
        }
        return x;
    }

    // Templates and nets that are there.

    void bothTemplatesMayBe() {
        Circuit x = new Circuit();
        x.part(0, NOT, 2, 0, 0, 0);
        x.part(1, NOT, 2, 3, 0, 0);
        check.answers("template 0", 41, () -> x.instance(0, 0, 0));
        check.answers("template 1", 43, () -> x.instance(1, 0, 0));
    }

    void templatesBeyondThem() {
        for (int template : new int[] {-1, 2, MIN, MAX}) {
            Circuit x = tris(1);
            x.build();
            check.refuses("template " + template, Check.ARGUMENT, x, c -> c.instance(template, 0, 0));
        }
    }

    void netsAtTheirBoundsAmong40() {
        netsAtTheirBounds(40);
    }

    void netsAtTheirBoundsAmong41() {
        netsAtTheirBounds(41);
    }

    void netsAtTheirBoundsAmong80() {
        netsAtTheirBounds(80);
    }

    /** The limit is looked at with a template of no fresh nets and with one that is empty. */
    private void netsAtTheirBounds(int nets) {
        for (int parts = 0; parts <= 1; parts++) {
            for (int[] xy : new int[][] {{0, 0}, {nets - 1, 0}, {0, nets - 1}, {nets - 1, nets - 1}}) {
                Circuit x = withNets(nets, parts);
                check.answers("x " + xy[0] + ", y " + xy[1], nets, () -> x.instance(1, xy[0], xy[1]));
            }
            for (int wrong : new int[] {-1, nets, MIN, MAX}) {
                Circuit x = withNets(nets, parts);
                x.build();
                check.refuses("x " + wrong, Check.ARGUMENT, x, c -> c.instance(1, wrong, 0));
                check.refuses("y " + wrong, Check.ARGUMENT, x, c -> c.instance(1, 0, wrong));
                check.refuses("both " + wrong, Check.ARGUMENT, x, c -> c.instance(1, wrong, wrong));
            }
        }
    }

    private static Circuit withNets(int nets, int partsOfSecond) {
        Circuit x = template(new int[] {MUX, 2, 3, 4, 5}, new int[] {MUX, 6, 7, 8, 9});
        for (int i = 0; i < (nets - 40) / 8; i++) {
            x.instance(0, 0, 0);
        }
        if (nets == 41) {
            Circuit one = template(new int[] {TRI, 0, 2, 2, 0});
            one.instance(0, 30, 30);
            x = one;
        }
        for (int i = 0; i < partsOfSecond; i++) {
            x.part(1, TRI, 0, 1, 1, 0);
        }
        return x;
    }

    // Templates without cells.

    void aTemplateWithoutCells() {
        Circuit x = Scenes.ports(1);
        x.build();
        check.answers("nets", 40, () -> x.instance(1, 0, 0));
        check.answers("cells", 1, () -> x.count(1));
        check.answers("an instance was made, so it is not built", 0, () -> x.count(3));
        check.answers("it did not settle", 1, () -> x.count(7));
        check.answers("it builds again", 1, x::build);
        check.answers("and settles", 2, () -> x.count(7));
    }

    void aTemplateWithoutCellsInAFullCircuit() {
        Circuit cells = Scenes.cells(60);
        check.answers("60 cells", 40, () -> cells.instance(0, 0, 0));
        Circuit nets = withNets(80, 0);
        check.answers("80 nets", 80, () -> nets.instance(1, 79, 79));
    }

    void aTemplateWithoutCellsStillAsksForTemplateAndNets() {
        check.refuses("template", Check.ARGUMENT, new Circuit(), c -> c.instance(2, 0, 0));
        check.refuses("x", Check.ARGUMENT, new Circuit(), c -> c.instance(0, 40, 0));
        check.refuses("y", Check.ARGUMENT, new Circuit(), c -> c.instance(0, 0, 40));
    }

    // Fresh nets.

    void noFreshNetForLocalNets0And1() {
        Circuit x = template(new int[] {NOT, 0, 1, 0, 0});
        check.answers("nets", 40, () -> x.instance(0, 7, 8));
        check.answers("level", 1, x::build);
        check.answers("local net 0 is x", 1, () -> x.level(7));
        check.answers("local net 1 is y", 0, () -> x.level(8));
    }

    void oneFreshNetForEachOtherLocalNet() {
        for (int local = 2; local <= 9; local++) {
            Circuit x = template(new int[] {NOT, local, 0, 0, 0});
            check.answers("local net " + local, 41, () -> x.instance(0, 7, 8));
            x.build();
            check.answers("it is net 40", 1, () -> x.level(40));
        }
    }

    void allEightFreshNets() {
        Circuit x = template(new int[] {MUX, 9, 8, 7, 6}, new int[] {MUX, 5, 4, 3, 2});
        check.answers("nets", 48, () -> x.instance(0, 7, 8));
        check.answers("net 47 is there", 2, () -> x.value(47));
        check.refuses("net 48 is not", Check.ELEMENT, x, c -> c.value(48));
    }

    void aLocalNetThatIsNamedTwiceIsOneFreshNet() {
        Circuit x = template(new int[] {AND, 4, 4, 4, 0}, new int[] {NOT, 5, 4, 0, 0});
        check.answers("nets", 42, () -> x.instance(0, 7, 8));
    }

    void namedByAnInputAlone() {
        check.answers("by a", 41, () -> template(new int[] {MUX, 0, 9, 1, 1}).instance(0, 7, 8));
        check.answers("by b", 41, () -> template(new int[] {MUX, 0, 1, 9, 1}).instance(0, 7, 8));
        check.answers("by c", 41, () -> template(new int[] {MUX, 0, 1, 1, 9}).instance(0, 7, 8));
        check.answers("by a register's a", 41, () -> template(new int[] {REGISTER, 0, 9, 1, 1}).instance(0, 7, 8));
        check.answers("by a latch's b", 41, () -> template(new int[] {LATCH, 0, 1, 9, 1}).instance(0, 7, 8));
    }

    void clocksAndStatesNameNoNet() {
        for (int clock = 0; clock <= 1; clock++) {
            for (int state = 0; state <= 2; state++) {
                Circuit x = template(new int[] {REGISTER, 0, 1, clock, state});
                int given = state;
                check.answers("nets", 40, () -> x.instance(0, 7, 8));
                check.answers("its first state", given, () -> x.state(0));
            }
        }
    }

    void aRegisterOfAnInstanceHasItsClock() {
        for (int clock = 0; clock <= 1; clock++) {
            int own = clock;
            Circuit x = template(new int[] {REGISTER, 0, 1, clock, 1});
            x.instance(0, 7, 8);
            x.build();
            x.stick(8, 0);
            check.answers("the other clock", 0, () -> x.tick(1 - own));
            check.answers("its clock", 1, () -> x.tick(own));
            check.answers("its state", 0, () -> x.state(0));
            x.reset();
            check.answers("its first state", 1, () -> x.state(0));
        }
    }

    void freshNetsGoByRisingLocalNumbers() {
        Circuit x = template(new int[] {NOT, 9, 0, 0, 0}, new int[] {NOT, 2, 9, 0, 0}, new int[] {NOT, 5, 2, 0, 0});
        check.answers("nets", 43, () -> x.instance(0, 7, 8));
        check.answers("levels", 3, x::build);
        check.answers("local net 2", 2, () -> x.level(40));
        check.answers("local net 5", 3, () -> x.level(41));
        check.answers("local net 9", 1, () -> x.level(42));
    }

    void eachInstanceHasFreshNetsOfItsOwn() {
        Circuit x = template(new int[] {NOT, 2, 0, 0, 0});
        check.answers("first", 41, () -> x.instance(0, 7, 8));
        check.answers("second", 42, () -> x.instance(0, 7, 8));
        check.answers("on a fresh net of the second", 43, () -> x.instance(0, 41, 8));
        check.answers("levels", 2, x::build);
        check.answers("net 40", 1, () -> x.level(40));
        check.answers("net 41", 1, () -> x.level(41));
        check.answers("net 42", 2, () -> x.level(42));
    }

    void freshNetsAreUnknownAndHaveNotTurned() {
        Circuit x = template(new int[] {NOT, 2, 3, 0, 0});
        x.build();
        x.instance(0, 7, 8);
        for (int net = 40; net <= 41; net++) {
            int asked = net;
            check.answers("value", 2, () -> x.value(asked));
            check.answers("flips", 0, () -> x.flips(asked));
        }
        x.build();
        check.answers("settled, the driven one", 2, () -> x.value(40));
        check.answers("settled, the one without drivers", 3, () -> x.value(41));
    }

    /** A cell of an instance on fresh nets and one like it on nets 10 to 13, which are stuck alike. */
    void eachInputOfEachKindIsThePlacedNet() {
        for (int kind = NOT; kind <= REGISTER; kind++) {
            int[] numbers = fitting(kind, 8);
            Circuit x = template(numbers);
            x.part(0, MUX, 1, 5, 6, 7);
            x.cell(kind, 13, 10, kind == REGISTER ? 0 : 11, kind == REGISTER ? 0 : 12);
            check.answers("nets", 44, () -> x.instance(0, 20, 21));
            x.build();
            for (int row = 0; row < 27; row++) {
                int[] inputs = {row / 9, row / 3 % 3, row % 3};
                for (int i = 0; i < 3; i++) {
                    x.stick(10 + i, inputs[i]);
                    x.stick(40 + i, inputs[i]);
                }
                x.tick(0);
                int due = x.value(13);
                check.answers("kind " + kind + " of " + told(inputs), due, () -> x.value(43));
            }
        }
    }

    void cellsOfAnInstanceAreInOrder() {
        Circuit x = template(new int[] {REGISTER, 2, 0, 0, 0}, new int[] {REGISTER, 3, 0, 0, 1}, new int[] {LATCH, 4, 0, 1, 0});
        x.cell(REGISTER, 0, 0, 0, 2);
        x.instance(0, 7, 8);
        check.answers("the first is cell 1", 0, () -> x.state(1));
        check.answers("the second is cell 2", 1, () -> x.state(2));
        check.answers("the latch is cell 3", 2, () -> x.state(3));
        check.refuses("there is no cell 4", Check.ELEMENT, x, c -> c.state(4));
        check.answers("the next is 4", 4, () -> x.cell(PORT, 1, 0, 0, 0));
    }

    // Drivers.

    void eachKindOnANetThatIsDriven() {
        for (int first = PORT; first <= REGISTER; first++) {
            for (int second = NOT; second <= REGISTER; second++) {
                for (int local = 0; local <= 1; local++) {
                    onADrivenNet(first, second, local);
                }
            }
        }
    }

    private void onADrivenNet(int first, int second, int local) {
        Circuit x = template(fitting(second, local));
        cell(x, fitting(first, 3));
        x.build();
        int[] xy = local == 0 ? new int[] {3, 4} : new int[] {4, 3};
        if (first == TRI && second == TRI) {
            check.answers("TRI beside TRI", 42, () -> x.instance(0, xy[0], xy[1]));
        } else {
            check.refuses(second + " beside " + first, Check.UNSUPPORTED, x, c -> c.instance(0, xy[0], xy[1]));
        }
    }

    void eachKindBesideEachOtherOnAFreshNet() {
        for (int first = NOT; first <= REGISTER; first++) {
            for (int second = NOT; second <= REGISTER; second++) {
                Circuit x = template(fitting(first, 9), fitting(second, 9));
                if (first == TRI && second == TRI) {
                    check.answers("TRI beside TRI", 43, () -> x.instance(0, 3, 4));
                } else {
                    check.refuses(second + " beside " + first, Check.UNSUPPORTED, x, c -> c.instance(0, 3, 4));
                }
            }
        }
    }

    void eachKindBesideEachOtherWhereXIsY() {
        for (int first = NOT; first <= REGISTER; first++) {
            for (int second = NOT; second <= REGISTER; second++) {
                Circuit x = template(fitting(first, 0), fitting(second, 1));
                if (first == TRI && second == TRI) {
                    check.answers("TRI beside TRI", 42, () -> x.instance(0, 3, 3));
                } else {
                    check.refuses(second + " beside " + first, Check.UNSUPPORTED, x, c -> c.instance(0, 3, 3));
                    int nets = 40 + Math.max(fresh(first), fresh(second));
                    check.answers("apart they may be", nets, () -> x.instance(0, 3, 4));
                }
            }
        }
    }

    private static int fresh(int kind) {
        return (int) USES[kind].chars().filter(use -> use == 'n').count();
    }

    void xMayBeYWhereOneAloneIsDriven() {
        Circuit x = template(new int[] {NOT, 0, 2, 0, 0});
        check.answers("local net 0", 41, () -> x.instance(0, 3, 3));
        Circuit y = template(new int[] {NOT, 1, 2, 0, 0});
        check.answers("local net 1", 41, () -> y.instance(0, 3, 3));
    }

    void xMayBeANetThatIsDrivenIfItIsOnlyRead() {
        Circuit x = template(new int[] {AND, 2, 0, 1, 0});
        x.cell(PORT, 3, 0, 0, 0);
        check.answers("nets", 41, () -> x.instance(0, 3, 3));
    }

    void theClashMayBeWithTheLastPart() {
        Circuit x = new Circuit();
        for (int i = 0; i < 9; i++) {
            x.part(0, TRI, 2, 1, 1, 0);
        }
        x.part(0, NOT, 2, 1, 0, 0);
        check.refuses("with a fresh net", Check.UNSUPPORTED, x, c -> c.instance(0, 3, 4));
        Circuit y = tris(9);
        y.part(0, NOT, 1, 2, 0, 0);
        y.cell(PORT, 4, 0, 0, 0);
        check.refuses("with the circuit", Check.UNSUPPORTED, y, c -> c.instance(0, 3, 4));
        check.answers("elsewhere it may be", 41, () -> y.instance(0, 3, 5));
    }

    void theClashMayBeWithThePartLongBefore() {
        for (int local : new int[] {0, 1, 2, 9}) {
            Circuit x = template(new int[] {NOT, local, 3, 0, 0});
            for (int i = 4; i <= 8; i++) {
                x.part(0, NOT, i, 3, 0, 0);
            }
            check.answers("without it", 6 + 40 + (local < 2 ? 0 : 1), () -> x.twin().instance(0, 3, 4));
            x.part(0, NOT, local, 3, 0, 0);
            check.refuses("local net " + local, Check.UNSUPPORTED, x, c -> c.instance(0, 3, 4));
        }
    }

    void theClashMayBeBetweenInstances() {
        Circuit x = template(new int[] {NOT, 0, 1, 0, 0});
        check.answers("first", 40, () -> x.instance(0, 3, 4));
        check.refuses("second", Check.UNSUPPORTED, x, c -> c.instance(0, 3, 4));
        check.answers("elsewhere", 40, () -> x.instance(0, 4, 5));
    }

    // 60 cells, 80 nets.

    void fiftyCellsAndTen() {
        Circuit x = tris(10);
        Scenes.addTris(x, 50);
        check.answers("60 may be", 40, () -> x.instance(0, 3, 4));
        check.answers("cells", 60, () -> x.count(1));
    }

    void fiftyOneCellsAndTen() {
        Circuit x = tris(10);
        Scenes.addTris(x, 51);
        x.build();
        check.refuses("61 may not", Check.STATE, x, c -> c.instance(0, 3, 4));
    }

    void fiftyNineCellsAndOneOrTwo() {
        Circuit one = tris(1);
        Scenes.addTris(one, 59);
        check.answers("60 may be", 40, () -> one.instance(0, 3, 4));
        Circuit two = tris(2);
        Scenes.addTris(two, 59);
        check.refuses("61 may not", Check.STATE, two, c -> c.instance(0, 3, 4));
    }

    void sixtyCellsAndOne() {
        Circuit x = tris(1);
        Scenes.addTris(x, 60);
        check.refuses("61 may not", Check.STATE, x, c -> c.instance(0, 3, 4));
    }

    void sixInstancesOfTen() {
        Circuit x = tris(10);
        for (int i = 0; i < 6; i++) {
            check.answers("instance " + i, 40, () -> x.instance(0, 3, 4));
        }
        check.answers("cells", 60, () -> x.count(1));
        check.refuses("the seventh", Check.STATE, x, c -> c.instance(0, 3, 4));
    }

    /** Template 0 makes eight fresh nets, template 1 so many as are asked for. */
    private static Circuit nets(int nets, int freshOfSecond) {
        Circuit x = new Circuit();
        for (int local = 2; local <= 9; local += 2) {
            x.part(0, TRI, local, local + 1, local + 1, 0);
        }
        for (int i = 0; i < (nets - 40) / 8; i++) {
            x.instance(0, 0, 0);
        }
        for (int i = 0; i < (nets - 40) % 8; i++) {
            x.part(1, TRI, 2 + i, 0, 0, 0);
        }
        if ((nets - 40) % 8 > 0) {
            x.instance(1, 0, 0);
        }
        for (int i = (nets - 40) % 8; i < freshOfSecond; i++) {
            x.part(1, TRI, 2 + i, 0, 0, 0);
        }
        return x;
    }

    void seventyTwoNetsAndEight() {
        Circuit x = nets(72, 8);
        check.answers("80 may be", 80, () -> x.instance(1, 0, 0));
        check.answers("net 79 is there", 2, () -> x.value(79));
        check.refuses("net 80 is not", Check.ELEMENT, x, c -> c.value(80));
    }

    void seventyThreeNetsAndSevenOrEight() {
        Circuit seven = nets(73, 7);
        check.answers("80 may be", 80, () -> seven.instance(1, 0, 0));
        Circuit eight = nets(73, 8);
        eight.build();
        check.refuses("81 may not", Check.STATE, eight, c -> c.instance(1, 0, 0));
    }

    void seventyNineNetsAndOneOrTwo() {
        Circuit x = Scenes.nets(79);
        check.answers("79 there are", 79, () -> x.count(0));
        check.answers("80 may be", 80, () -> x.instance(1, 39, 39));
        Circuit y = Scenes.nets(79);
        y.part(1, TRI, 0, 3, 3, 0);
        check.refuses("81 may not", Check.STATE, y, c -> c.instance(1, 39, 39));
    }

    void eightyNetsAndNoneOrOne() {
        Circuit x = nets(80, 1);
        check.refuses("81 may not", Check.STATE, x, c -> c.instance(1, 0, 0));
        Circuit y = nets(80, 0);
        y.part(1, TRI, 0, 1, 1, 0);
        check.answers("no fresh net may be", 80, () -> y.instance(1, 79, 78));
    }

    void sixtyCellsAndEightyNetsAtOnce() {
        Circuit x = new Circuit();
        for (int i = 0; i < 10; i++) {
            x.part(0, TRI, 2 + i % 8, 0, 1, 0);
        }
        Scenes.addTris(x, 10);
        for (int i = 1; i <= 5; i++) {
            int nets = 40 + 8 * i;
            check.answers("instance " + i, nets, () -> x.instance(0, 3, 4));
        }
        check.answers("cells", 60, () -> x.count(1));
        check.refuses("both too many", Check.STATE, x, c -> c.instance(0, 3, 4));
    }

    void tooManyCellsThoughNetsAreThere() {
        Circuit x = template(new int[] {TRI, 2, 0, 1, 0}, new int[] {TRI, 2, 0, 1, 0});
        Scenes.addTris(x, 59);
        x.build();
        check.refuses("61 cells, 41 nets", Check.STATE, x, c -> c.instance(0, 3, 4));
    }

    void tooManyNetsThoughCellsAreThere() {
        Circuit x = nets(80, 1);
        x.build();
        check.refuses("21 cells, 81 nets", Check.STATE, x, c -> c.instance(1, 3, 4));
    }

    // The order of testing.

    /** Template 0 drives x by a NOT and has ten cells; the circuit has 60 cells, and net 0 a port. */
    private static Circuit wrongInAllWays() {
        Circuit x = template(new int[] {NOT, 0, 1, 0, 0});
        for (int i = 0; i < 9; i++) {
            x.part(0, NOT, 2, 3, 0, 0);
        }
        x.cell(PORT, 0, 0, 0, 0);
        Scenes.addTris(x, 59);
        return x;
    }

    void wrongTemplatesAndNetsComeFirst() {
        for (int[] n : new int[][] {{-1, 0, 0}, {2, 0, 0}, {0, -1, 0}, {0, 40, 0}, {0, 0, -1}, {0, 0, 40}}) {
            check.refuses(told(n), Check.ARGUMENT, wrongInAllWays(), c -> c.instance(n[0], n[1], n[2]));
        }
    }

    void wrongNetsComeBeforeWrongDriversAlone() {
        for (int wrong : new int[] {-1, 40}) {
            Circuit x = template(new int[] {NOT, 0, 2, 0, 0}, new int[] {NOT, 0, 2, 0, 0});
            check.refuses("x", Check.ARGUMENT, x, c -> c.instance(0, wrong, 0));
            check.refuses("y", Check.ARGUMENT, x, c -> c.instance(0, 0, wrong));
        }
    }

    void wrongNetsComeBeforeTooManyCellsOrNets() {
        Circuit cells = tris(1);
        Scenes.addTris(cells, 60);
        check.refuses("cells, x", Check.ARGUMENT, cells, c -> c.instance(0, 40, 0));
        check.refuses("cells, y", Check.ARGUMENT, cells, c -> c.instance(0, 0, -1));
        check.refuses("cells, template", Check.ARGUMENT, cells, c -> c.instance(2, 0, 0));
        Circuit nets = nets(80, 1);
        check.refuses("nets, x", Check.ARGUMENT, nets, c -> c.instance(1, -1, 0));
        check.refuses("nets, y", Check.ARGUMENT, nets, c -> c.instance(1, 0, 80));
        check.refuses("nets, template", Check.ARGUMENT, nets, c -> c.instance(-1, 0, 0));
    }

    void wrongDriversComeBeforeTooManyCells() {
        Circuit onX = template(new int[] {NOT, 0, 1, 0, 0});
        onX.cell(PORT, 0, 0, 0, 0);
        Scenes.addTris(onX, 59);
        check.refuses("beside a port", Check.UNSUPPORTED, onX, c -> c.instance(0, 0, 1));
        check.refuses("too many cells alone", Check.STATE, onX, c -> c.instance(0, 3, 1));
        Circuit fresh = template(new int[] {NOT, 2, 1, 0, 0}, new int[] {NOT, 2, 1, 0, 0});
        Scenes.addTris(fresh, 59);
        check.refuses("on a fresh net", Check.UNSUPPORTED, fresh, c -> c.instance(0, 0, 1));
    }

    void wrongDriversComeBeforeTooManyNets() {
        Circuit x = nets(80, 1);
        x.part(1, NOT, 1, 0, 0, 0);
        x.cell(PORT, 5, 0, 0, 0);
        check.refuses("beside a port", Check.UNSUPPORTED, x, c -> c.instance(1, 0, 5));
        check.refuses("too many nets alone", Check.STATE, x, c -> c.instance(1, 0, 6));
        Circuit y = nets(80, 8);
        y.part(1, NOT, 9, 0, 0, 0);
        check.refuses("on the last fresh net", Check.UNSUPPORTED, y, c -> c.instance(1, 0, 6));
    }

    void wrongDriversComeBeforeBoth() {
        check.refuses("all are due", Check.UNSUPPORTED, wrongInAllWays(), c -> c.instance(0, 0, 1));
    }

    // What a refusal leaves.

    void aRefusalMakesNoCellOfThoseBeforeTheClash() {
        Circuit x = template(new int[] {NOT, 2, 0, 0, 0}, new int[] {REGISTER, 3, 2, 0, 1}, new int[] {NOT, 1, 3, 0, 0});
        x.cell(PORT, 9, 0, 0, 0);
        x.build();
        check.refuses("y is driven", Check.UNSUPPORTED, x, c -> c.instance(0, 8, 9));
        check.answers("cells", 1, () -> x.count(1));
        check.answers("nets", 40, () -> x.count(0));
        check.answers("it is built still", 1, () -> x.count(3));
        check.answers("then elsewhere, from net 40 on", 42, () -> x.instance(0, 8, 10));
        check.answers("the register is cell 2", 1, () -> x.state(2));
    }
}
