/** Promise 2 at its bounds: kinds, nets, clocks and states, drivers, 60 cells, and the order of testing. */
final class CellBoundsTest extends Suite {
    public static void main(String[] args) throws ReflectiveOperationException {
        run(new CellBoundsTest());
    }

    void theFirstAndTheLastKind() {
        check.answers("kind 0", 0, () -> new Circuit().cell(PORT, 3, 5, 6, 7));
        check.answers("kind 8", 0, () -> new Circuit().cell(REGISTER, 3, 5, 0, 0));
    }

    void kindsBeyondThem() {
        for (int kind : new int[] {-1, 9, MIN, MAX}) {
            check.refuses("kind " + kind, Check.ARGUMENT, new Circuit(), c -> c.cell(kind, 3, 0, 0, 0));
        }
    }

    void numbersAtTheirBoundsAmong40Nets() {
        numbersThatMayBe(40);
        numbersThatMayNotBe(40);
    }

    void numbersAtTheirBoundsAmong41Nets() {
        numbersThatMayBe(41);
        numbersThatMayNotBe(41);
    }

    void numbersAtTheirBoundsAmong80Nets() {
        numbersThatMayBe(80);
        numbersThatMayNotBe(80);
    }

    private void numbersThatMayBe(int nets) {
        for (int kind = PORT; kind <= REGISTER; kind++) {
            mayBe(nets, with(fitting(kind, 3), 1, 0));
            mayBe(nets, with(fitting(kind, 3), 1, nets - 1));
            for (int place = 2; place <= 4; place++) {
                char use = USES[kind].charAt(place - 2);
                if (use != '-') {
                    mayBe(nets, with(fitting(kind, 3), place, 0));
                    mayBe(nets, with(fitting(kind, 3), place, limit(use, nets) - 1));
                }
            }
        }
    }

    private void mayBe(int nets, int[] numbers) {
        Circuit x = Scenes.nets(nets);
        int cells = x.count(1);
        check.answers("cell " + told(numbers), cells, () -> cell(x, numbers));
        check.answers("cells after " + told(numbers), cells + 1, () -> x.count(1));
    }

    private void numbersThatMayNotBe(int nets) {
        for (int kind = PORT; kind <= REGISTER; kind++) {
            for (int wrong : new int[] {-1, nets, MIN, MAX}) {
                mayNotBe(nets, with(fitting(kind, 3), 1, wrong));
            }
            for (int place = 2; place <= 4; place++) {
                char use = USES[kind].charAt(place - 2);
                for (int wrong : use == '-' ? new int[0] : new int[] {-1, limit(use, nets), MIN, MAX}) {
                    mayNotBe(nets, with(fitting(kind, 3), place, wrong));
                }
            }
        }
    }

    private void mayNotBe(int nets, int[] numbers) {
        Circuit x = Scenes.nets(nets);
        x.build();
        check.refuses("cell " + told(numbers), Check.ARGUMENT, x, c -> cell(c, numbers));
    }

    void whatAKindHasNoUseForMayBeAnything() {
        for (int kind = PORT; kind <= REGISTER; kind++) {
            for (int place = 2; place <= 4; place++) {
                if (USES[kind].charAt(place - 2) == '-') {
                    for (int number : new int[] {MIN, -1, 0, 40, 80, MAX}) {
                        Circuit x = new Circuit();
                        int[] numbers = with(fitting(kind, 3), place, number);
                        check.answers("cell " + told(numbers), 0, () -> cell(x, numbers));
                        check.answers("it builds", 1, x::build);
                    }
                }
            }
        }
    }

    /** Each kind is put beside each other one: only two of kind 6 share a net. */
    void eachKindBesideEachOther() {
        for (int first = PORT; first <= REGISTER; first++) {
            for (int second = PORT; second <= REGISTER; second++) {
                int[] numbers = fitting(second, 3);
                Circuit x = new Circuit();
                cell(x, fitting(first, 3));
                x.build();
                if (first == TRI && second == TRI) {
                    check.answers("TRI beside TRI", 1, () -> cell(x, numbers));
                } else {
                    check.refuses(second + " beside " + first, Check.UNSUPPORTED, x, c -> cell(c, numbers));
                }
            }
        }
    }

    void driversOnTheFirstAndTheLastNet() {
        for (int net : new int[] {0, 39}) {
            Circuit x = new Circuit();
            x.cell(PORT, net, 0, 0, 0);
            check.refuses("net " + net, Check.UNSUPPORTED, x, c -> c.cell(PORT, net, 0, 0, 0));
        }
        Circuit x = Scenes.nets(80);
        x.cell(NOT, 79, 5, 0, 0);
        for (int net : new int[] {40, 79}) {
            check.refuses("net " + net, Check.UNSUPPORTED, x, c -> cell(c, fitting(NOT, net)));
            check.refuses("TRI on net " + net, Check.UNSUPPORTED, x, c -> cell(c, fitting(TRI, net)));
        }
    }

    void aDriverOutOfAnInstanceCountsToo() {
        Circuit x = new Circuit();
        x.part(0, NOT, 0, 1, 0, 0);
        x.part(0, TRI, 2, 1, 1, 0);
        x.instance(0, 7, 8);
        check.refuses("beside its NOT", Check.UNSUPPORTED, x, c -> c.cell(TRI, 7, 1, 1, 0));
        check.refuses("a NOT beside its TRI", Check.UNSUPPORTED, x, c -> c.cell(NOT, 40, 1, 1, 0));
        check.answers("a TRI beside its TRI", 2, () -> x.cell(TRI, 40, 1, 1, 0));
    }

    void aThirdDriverIsHeldAgainstAll() {
        Circuit x = new Circuit();
        check.answers("first", 0, () -> x.cell(TRI, 3, 5, 6, 0));
        check.answers("second", 1, () -> x.cell(TRI, 3, 5, 6, 0));
        check.refuses("a NOT as third", Check.UNSUPPORTED, x, c -> c.cell(NOT, 3, 5, 6, 0));
        check.answers("third", 2, () -> x.cell(TRI, 3, 5, 6, 0));
    }

    void a60thCellOfEachKind() {
        for (int kind = PORT; kind <= REGISTER; kind++) {
            Circuit x = Scenes.cells(59);
            int[] numbers = fitting(kind, 3);
            check.answers("the 60th, of kind " + kind, 59, () -> cell(x, numbers));
            check.answers("cells then", 60, () -> x.count(1));
        }
    }

    void a61stCellOfEachKind() {
        for (int kind = PORT; kind <= REGISTER; kind++) {
            int[] numbers = fitting(kind, 3);
            Circuit x = Scenes.cells(60);
            x.build();
            check.refuses("the 61st, of kind " + kind, Check.STATE, x, c -> cell(c, numbers));
        }
    }

    void a61stCellThatWouldShareItsNet() {
        Circuit x = Scenes.cells(60);
        check.refuses("a TRI beside TRIs", Check.STATE, x, c -> c.cell(TRI, 2, 5, 6, 0));
    }

    void a61stCellAfterInstances() {
        Circuit x = Scenes.full();
        check.refuses("a TRI beside TRIs", Check.STATE, x, c -> c.cell(TRI, 0, 79, 79, 0));
        check.refuses("on a net without drivers", Check.STATE, x, c -> c.cell(PORT, 39, 0, 0, 0));
    }

    void allPortsOnAllFirstNets() {
        Circuit x = Scenes.ports(40);
        check.answers("40 cells", 40, () -> x.count(1));
        check.answers("level 1", 1, x::build);
        check.refuses("no net is left", Check.UNSUPPORTED, x, c -> c.cell(PORT, 39, 0, 0, 0));
    }

    /** Numbers that are wrong come before a net that is driven, with and without 60 cells. */
    void wrongNumbersComeFirst() {
        for (int cells : new int[] {2, 60}) {
            for (int out : new int[] {0, 1, 2, 3}) {
                for (int kind = NOT; kind <= REGISTER; kind++) {
                    wrongNumbersAt(cells, kind, out);
                }
            }
        }
    }

    private void wrongNumbersAt(int cells, int kind, int out) {
        for (int place = 2; place <= 4; place++) {
            char use = USES[kind].charAt(place - 2);
            if (use != '-') {
                int[] below = with(fitting(kind, out), place, -1);
                int[] above = with(fitting(kind, out), place, limit(use, 40));
                Circuit x = Scenes.cells(cells);
                check.refuses(cells + " cells, " + told(below), Check.ARGUMENT, x, c -> cell(c, below));
                check.refuses(cells + " cells, " + told(above), Check.ARGUMENT, x, c -> cell(c, above));
            }
        }
    }

    void aWrongKindComesFirst() {
        for (int kind : new int[] {-1, 9}) {
            check.refuses("on a driven net", Check.ARGUMENT, Scenes.cells(2), c -> c.cell(kind, 0, 5, 6, 7));
            check.refuses("with 60 cells", Check.ARGUMENT, Scenes.cells(60), c -> c.cell(kind, 3, 5, 6, 7));
            check.refuses("with both", Check.ARGUMENT, Scenes.cells(60), c -> c.cell(kind, 0, 5, 6, 7));
        }
    }

    void aWrongOutComesBefore60Cells() {
        for (int out : new int[] {-1, 40}) {
            for (int kind = PORT; kind <= REGISTER; kind++) {
                int[] numbers = fitting(kind, out);
                check.refuses(told(numbers), Check.ARGUMENT, Scenes.cells(60), c -> cell(c, numbers));
            }
        }
    }

    void aDrivenNetComesBefore60Cells() {
        for (int kind = PORT; kind <= REGISTER; kind++) {
            int given = kind;
            Circuit x = Scenes.cells(60);
            check.refuses(kind + " beside a port", Check.UNSUPPORTED, x, c -> cell(c, fitting(given, 0)));
            check.refuses(kind + " beside a NOT", Check.UNSUPPORTED, x, c -> cell(c, fitting(given, 1)));
            if (kind != TRI) {
                check.refuses(kind + " beside TRIs", Check.UNSUPPORTED, x, c -> cell(c, fitting(given, 2)));
            }
        }
    }

    void eachKindEndsThatItIsBuilt() {
        for (int kind = PORT; kind <= REGISTER; kind++) {
            Circuit x = new Circuit();
            x.build();
            cell(x, fitting(kind, 3));
            check.answers("kind " + kind, 0, () -> x.count(3));
            check.answers("it does not settle", 1, () -> x.count(7));
        }
    }

    void cellsAreNumberedAsTheyAreMadeAlsoAfterARefusal() {
        Circuit x = new Circuit();
        check.answers("first", 0, () -> x.cell(PORT, 0, 0, 0, 0));
        check.refuses("refused", Check.UNSUPPORTED, x, c -> c.cell(PORT, 0, 0, 0, 0));
        check.answers("second", 1, () -> x.cell(PORT, 1, 0, 0, 0));
        check.refuses("refused", Check.ARGUMENT, x, c -> c.cell(PORT, 40, 0, 0, 0));
        check.answers("third", 2, () -> x.cell(PORT, 2, 0, 0, 0));
    }
}
