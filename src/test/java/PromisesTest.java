/** Each promise by hand: ordinary inputs, the edges that the document names, and wrong inputs. */
final class PromisesTest extends Suite {
    public static void main(String[] args) throws ReflectiveOperationException {
        run(new PromisesTest());
    }

    void aNewObject() {
        Circuit x = new Circuit();
        int[] due = {40, 0, 0, 0, 0, 40, 0, 0};
        for (int what = 0; what < due.length; what++) {
            int asked = what;
            check.answers("new: count " + what, due[what], () -> x.count(asked));
        }
        for (int net = 0; net < 40; net++) {
            int asked = net;
            check.answers("new: value " + net, 2, () -> x.value(asked));
            check.answers("new: flips " + net, 0, () -> x.flips(asked));
        }
        check.refuses("new: value 40", Check.ELEMENT, x, c -> c.value(40));
        check.refuses("new: level", Check.STATE, x, c -> c.level(0));
        check.refuses("new: tick", Check.STATE, x, c -> c.tick(0));
        check.refuses("new: set", Check.ELEMENT, x, c -> c.set(0, 0));
        check.refuses("new: state", Check.ELEMENT, x, c -> c.state(0));
        check.refuses("new: loop", Check.ELEMENT, x, Circuit::loop);
        check.answers("new: part of template 0", 1, () -> x.part(0, NOT, 1, 0, 0, 0));
        check.answers("new: part of template 1", 1, () -> x.part(1, NOT, 1, 0, 0, 0));
        Circuit y = new Circuit();
        check.answers("new: reset", 0, y::reset);
        check.answers("new: reset settles nothing", 0, () -> y.count(7));
        check.answers("new: build", 0, y::build);
        check.answers("new: all float once built", 40, () -> y.count(6));
    }

    void cellNumbersAndUnused() {
        Circuit x = new Circuit();
        check.answers("a port looks at out alone", 0, () -> x.cell(PORT, 0, MIN, MAX, -1));
        check.answers("NOT looks at a alone", 1, () -> x.cell(NOT, 1, 39, MIN, MAX));
        check.answers("AND has no use for c", 2, () -> x.cell(AND, 2, 39, 39, MAX));
        check.answers("OR has no use for c", 3, () -> x.cell(OR, 3, 0, 1, MIN));
        check.answers("XOR has no use for c", 4, () -> x.cell(XOR, 4, 0, 1, 40));
        check.answers("MUX", 5, () -> x.cell(MUX, 5, 0, 1, 39));
        check.answers("TRI has no use for c", 6, () -> x.cell(TRI, 6, 0, 1, -1));
        check.answers("LATCH has no use for c", 7, () -> x.cell(LATCH, 7, 0, 1, -1));
        check.answers("REGISTER", 8, () -> x.cell(REGISTER, 39, 39, 1, 2));
        check.answers("they build", 3, x::build);
        check.answers("a cell ends that it is built", 9, () -> x.cell(PORT, 30, 0, 0, 0));
        check.answers("it is not built", 0, () -> x.count(3));
    }

    void cellRefusals() {
        Circuit x = Scenes.ports(1);
        x.cell(TRI, 5, 1, 2, 0);
        x.build();
        int[][] wrong = {
            {-1, 9, 0, 0, 0}, {9, 9, 0, 0, 0}, {MIN, 9, 0, 0, 0}, {MAX, 9, 0, 0, 0},
            {PORT, -1, 0, 0, 0}, {PORT, 40, 0, 0, 0}, {NOT, MAX, 0, 0, 0},
            {NOT, 9, -1, 0, 0}, {NOT, 9, 40, 0, 0}, {AND, 9, 40, 0, 0}, {AND, 9, 0, 40, 0}, {OR, 9, 0, -1, 0},
            {XOR, 9, 0, 40, 0}, {MUX, 9, 0, 40, 0}, {MUX, 9, 0, 0, 40}, {MUX, 9, 0, 0, -1}, {TRI, 9, 0, 40, 0},
            {TRI, 9, -1, 0, 0}, {LATCH, 9, 0, 40, 0}, {LATCH, 9, 40, 0, 0},
            {REGISTER, 9, 40, 0, 0}, {REGISTER, 9, -1, 0, 0}, {REGISTER, 9, 0, 2, 0}, {REGISTER, 9, 0, -1, 0},
            {REGISTER, 9, 0, 0, 3}, {REGISTER, 9, 0, 0, -1},
            {REGISTER, 0, 0, 2, 0}, {NOT, 0, 40, 0, 0},
        };
        for (int[] w : wrong) {
            check.refuses("cell of kind " + w[0], Check.ARGUMENT, x, c -> c.cell(w[0], w[1], w[2], w[3], w[4]));
        }
        for (int kind = PORT; kind <= REGISTER; kind++) {
            int given = kind;
            check.refuses("kind " + kind + " beside a port", Check.UNSUPPORTED, x, c -> c.cell(given, 0, 1, 1, 1));
            if (kind != TRI) {
                check.refuses("kind " + kind + " beside a TRI", Check.UNSUPPORTED, x, c -> c.cell(given, 5, 1, 1, 1));
            }
        }
        check.answers("a TRI beside a TRI", 2, () -> x.cell(TRI, 5, 1, 1, 1));
        Circuit full = Scenes.ports(1);
        for (int i = 1; i < 60; i++) {
            full.cell(TRI, 5, 1, 2, 0);
        }
        check.refuses("the 61st cell", Check.STATE, full, c -> c.cell(TRI, 5, 1, 2, 0));
        check.refuses("the 61st on a driven net", Check.UNSUPPORTED, full, c -> c.cell(TRI, 0, 1, 2, 0));
        check.refuses("the 61st of no kind", Check.ARGUMENT, full, c -> c.cell(9, 0, 1, 2, 0));
        check.refuses("the 61st on a free net", Check.STATE, full, c -> c.cell(NOT, 7, 1, 2, 0));
    }

    /** Inputs in the order a, b, c over 0, 1, UNKNOWN, FLOATING; a row for each a, then b. */
    void truthTables() {
        table(NOT, 1, "1022");
        table(AND, 2, "0000" + "0122" + "0222" + "0222");
        table(OR, 2, "0122" + "1111" + "2122" + "2122");
        table(XOR, 2, "0122" + "1022" + "2222" + "2222");
        table(TRI, 2, "3022" + "3122" + "3222" + "3222");
        table(MUX, 3, "0000" + "0122" + "0222" + "0222"
                + "1022" + "1111" + "1222" + "1222"
                + "2022" + "2122" + "2222" + "2222"
                + "2022" + "2122" + "2222" + "2222");
        latchTable(0, "0000" + "0122" + "0222" + "0222");
        latchTable(1, "1022" + "1111" + "1222" + "1222");
        latchTable(2, "2022" + "2122" + "2222" + "2222");
    }

    private void table(int kind, int inputs, String due) {
        Circuit x = Scenes.ports(inputs);
        x.cell(kind, 10, 0, 1, 2);
        x.build();
        int rows = 1 << 2 * inputs;
        for (int row = 0; row < rows; row++) {
            for (int i = 0; i < inputs; i++) {
                x.set(i, row >> 2 * (inputs - 1 - i) & 3);
            }
            check.answers("kind " + kind + " row " + row, due.charAt(row) - '0', () -> x.value(10));
        }
    }

    private void latchTable(int was, String due) {
        for (int row = 0; row < 16; row++) {
            Circuit x = Scenes.ports(2);
            x.cell(LATCH, 10, 0, 1, 0);
            x.build();
            x.set(0, was);
            x.set(1, 1);
            x.set(1, 0);
            x.set(0, row >> 2);
            check.answers("closed latch holds", was, () -> x.value(10));
            x.set(1, row & 3);
            check.answers("latch that was " + was + " row " + row, due.charAt(row) - '0', () -> x.value(10));
            check.answers("its state", due.charAt(row) - '0', () -> x.state(2));
        }
    }

    /** A net of three TRI drivers of which each is 0, 1, UNKNOWN or FLOATING. */
    void sharedNets() {
        Circuit x = Scenes.ports(6);
        for (int i = 0; i < 3; i++) {
            x.cell(TRI, 10, i, 3 + i, 0);
        }
        x.build();
        for (int row = 0; row < 64; row++) {
            int[] driven = {row >> 4, row >> 2 & 3, row & 3};
            for (int i = 0; i < 3; i++) {
                x.set(i, driven[i]);
                x.set(3 + i, driven[i] == 3 ? 0 : 1);
            }
            check.answers("shared " + row, shared(driven), () -> x.value(10));
        }
    }

    private static int shared(int[] driven) {
        boolean zero = false;
        boolean one = false;
        boolean unknown = false;
        for (int value : driven) {
            zero |= value == 0;
            one |= value == 1;
            unknown |= value == 2;
        }
        if (unknown || zero && one) {
            return 2;
        }
        return zero ? 0 : one ? 1 : 3;
    }

    void part() {
        Circuit x = new Circuit();
        x.build();
        int[][] wrong = {
            {-1, NOT, 0, 0, 0, 0}, {2, NOT, 0, 0, 0, 0}, {0, PORT, 0, 0, 0, 0}, {0, 9, 0, 0, 0, 0}, {0, -1, 0, 0, 0, 0},
            {0, NOT, -1, 0, 0, 0}, {0, NOT, 10, 0, 0, 0}, {0, NOT, 0, 10, 0, 0}, {0, AND, 0, 0, 10, 0},
            {0, AND, 0, -1, 0, 0}, {0, MUX, 0, 0, 0, 10}, {0, MUX, 0, 0, 0, -1}, {0, LATCH, 0, 0, 10, 0},
            {0, REGISTER, 0, 10, 0, 0}, {0, REGISTER, 0, 0, 2, 0}, {0, REGISTER, 0, 0, -1, 0},
            {0, REGISTER, 0, 0, 0, 3}, {0, REGISTER, 0, 0, 0, -1},
        };
        for (int[] w : wrong) {
            check.refuses("part", Check.ARGUMENT, x, c -> c.part(w[0], w[1], w[2], w[3], w[4], w[5]));
        }
        check.answers("the first part", 1, () -> x.part(0, NOT, 9, 0, MIN, MAX));
        check.answers("a part with what it has no use for", 2, () -> x.part(0, AND, 8, 9, 0, 99));
        check.answers("the other template", 1, () -> x.part(1, REGISTER, 9, 9, 1, 2));
        check.answers("two drivers are no matter yet", 3, () -> x.part(0, NOT, 9, 0, 0, 0));
        check.answers("a part leaves it built", 1, () -> x.count(3));
        for (int i = 4; i <= 10; i++) {
            check.answers("part " + i, i, () -> x.part(0, TRI, 5, 6, 7, 0));
        }
        check.refuses("the 11th part", Check.STATE, x, c -> c.part(0, TRI, 5, 6, 7, 0));
        check.refuses("the 11th part of no kind", Check.ARGUMENT, x, c -> c.part(0, 0, 5, 6, 7, 0));
        check.answers("the other template is not full", 2, () -> x.part(1, TRI, 5, 6, 7, 0));
        check.answers("parts make no cells", 0, () -> x.count(1));
    }

    /** y = NOT of x through two fresh nets, numbered by rising local numbers, not by the order of the cells. */
    void instanceNets() {
        Circuit x = Scenes.ports(1);
        x.part(0, NOT, 7, 0, 3, 3);
        x.part(0, NOT, 4, 7, 5, 9);
        x.part(0, NOT, 1, 4, 0, 0);
        check.answers("two fresh nets", 42, () -> x.instance(0, 0, 20));
        check.answers("an instance is made of cells", 4, () -> x.count(1));
        check.answers("it builds", 4, x::build);
        check.answers("local 7 is the later fresh net", 2, () -> x.level(41));
        check.answers("local 4 is the first fresh net", 3, () -> x.level(40));
        x.set(0, 1);
        check.answers("local 7", 0, () -> x.value(41));
        check.answers("local 4", 1, () -> x.value(40));
        check.answers("local 1", 0, () -> x.value(20));
        check.answers("more parts", 4, () -> x.part(0, REGISTER, 9, 1, 1, 1));
        check.answers("made instances do not grow", 4, () -> x.count(1));
        check.answers("nets of instances serve instances", 45, () -> x.instance(0, 20, 21));
        check.answers("an instance ends that it is built", 0, () -> x.count(3));
        check.answers("fresh nets are unknown", 2, () -> x.value(44));
        check.answers("the register has its first state", 1, () -> x.state(7));
        check.answers("it builds again", 7, x::build);
        check.answers("a clock is no local net", 0, () -> x.tick(0));
        check.answers("the register takes local 1", 0, () -> x.tick(1));
        check.answers("a template without cells", 45, () -> x.instance(1, 44, 44));
        check.answers("is an instance all the same", 0, () -> x.count(3));
        Circuit y = Scenes.ports(2);
        y.part(0, MUX, 1, 0, 2, 9);
        y.part(0, LATCH, 3, 5, 6, 8);
        check.answers("inputs that no cell drives are fresh too", 45, () -> y.instance(0, 0, 10));
        y.build();
        check.answers("they float", 3, () -> y.value(42));
        y.stick(44, 0);
        y.set(0, 1);
        check.answers("local 9 chooses local 0", 1, () -> y.value(10));
        Circuit z = Scenes.ports(2);
        z.part(1, AND, 2, 0, 1, 9);
        check.answers("what a kind has no use for names no net", 41, () -> z.instance(1, 0, 1));
        z.build();
        z.set(0, 1);
        z.set(1, 1);
        check.answers("a and b lie where they should", 1, () -> z.value(40));
    }

    void instanceRefusals() {
        Circuit x = Scenes.ports(1);
        x.part(0, NOT, 1, 0, 0, 0);
        x.part(1, TRI, 1, 0, 2, 0);
        x.part(1, TRI, 1, 2, 0, 0);
        x.build();
        int[][] wrong = {
            {-1, 1, 1}, {2, 1, 1}, {0, -1, 1}, {0, 40, 1}, {0, 0, -1}, {0, 0, 40}, {1, MAX, 0}, {1, 0, MIN},
        };
        for (int[] w : wrong) {
            check.refuses("instance", Check.ARGUMENT, x, c -> c.instance(w[0], w[1], w[2]));
        }
        check.refuses("NOT beside a port", Check.UNSUPPORTED, x, c -> c.instance(0, 5, 0));
        check.refuses("TRI beside a port", Check.UNSUPPORTED, x, c -> c.instance(1, 5, 0));
        check.answers("two TRI in one template", 41, () -> x.instance(1, 5, 6));
        check.refuses("NOT beside TRI", Check.UNSUPPORTED, x, c -> c.instance(0, 5, 6));
        check.answers("TRI beside TRI", 42, () -> x.instance(1, 7, 6));
        x.part(0, AND, 2, 0, 1, 0);
        x.part(0, OR, 0, 2, 1, 0);
        check.refuses("x and y are one net that two cells drive", Check.UNSUPPORTED, x, c -> c.instance(0, 8, 8));
        check.answers("as two nets they may be", 43, () -> x.instance(0, 8, 9));
        x.part(0, TRI, 2, 0, 1, 0);
        check.refuses("two on a fresh net", Check.UNSUPPORTED, x, c -> c.instance(0, 10, 11));
    }

    void instanceLimits() {
        Circuit x = new Circuit();
        for (int local = 2; local < 10; local += 2) {
            x.part(0, TRI, local, local, local + 1, 0);
        }
        for (int i = 1; i <= 5; i++) {
            check.answers("instance " + i, 40 + 8 * i, () -> x.instance(0, 0, 0));
        }
        check.answers("cells", 20, () -> x.count(1));
        check.refuses("the 81st net", Check.STATE, x, c -> c.instance(0, 0, 0));
        check.refuses("the 81st net with no such net", Check.ARGUMENT, x, c -> c.instance(0, 80, 0));
        check.answers("net 79 is there", 2, () -> x.value(79));
        check.refuses("net 80 is not", Check.ELEMENT, x, c -> c.value(80));
        for (int i = 0; i < 10; i++) {
            x.part(1, TRI, 0, 1, 1, 0);
        }
        for (int i = 0; i < 4; i++) {
            check.answers("no fresh nets", 80, () -> x.instance(1, 79, 2));
        }
        check.refuses("the 61st cell", Check.STATE, x, c -> c.instance(1, 79, 2));
        x.part(0, NOT, 2, 0, 0, 0);
        check.refuses("a wrong driver counts before the limits", Check.UNSUPPORTED, x, c -> c.instance(0, 0, 0));
        Circuit nearly = Scenes.ports(40);
        for (int i = 0; i < 10; i++) {
            nearly.part(0, TRI, 2, 1, 1, 0);
        }
        nearly.instance(0, 0, 0);
        nearly.part(1, NOT, 2, 0, 0, 0);
        for (int i = 0; i < 9; i++) {
            nearly.instance(1, 0, 0);
        }
        check.refuses("59 cells and 10 more", Check.STATE, nearly, c -> c.instance(0, 0, 0));
        check.answers("59 cells and 1 more", 51, () -> nearly.instance(1, 0, 0));
        check.answers("60 cells", 60, () -> nearly.count(1));
        check.refuses("60 cells and 1 more", Check.STATE, nearly, c -> c.instance(1, 0, 0));
        Circuit wide = new Circuit();
        for (int local = 2; local < 10; local += 2) {
            wide.part(0, TRI, local, local, local + 1, 0);
        }
        wide.part(1, TRI, 2, 0, 1, 0);
        for (int i = 0; i < 4; i++) {
            wide.instance(0, 0, 0);
        }
        for (int i = 73; i <= 80; i++) {
            check.answers("net by net", i, () -> wide.instance(1, 0, 0));
        }
        check.refuses("80 nets and 1 more", Check.STATE, wide, c -> c.instance(1, 0, 0));
    }

    void build() {
        Circuit x = Scenes.ports(2);
        x.cell(AND, 5, 0, 6, 0);
        x.cell(NOT, 6, 1, 0, 0);
        check.answers("nothing is settled yet", 40, () -> x.count(5));
        check.answers("the greatest level", 3, x::build);
        check.answers("it is built", 1, () -> x.count(3));
        check.answers("it settled", 1, () -> x.count(7));
        check.answers("once more", 3, x::build);
        check.answers("does not settle", 1, () -> x.count(7));
        x.set(0, 1);
        x.set(1, 0);
        check.answers("made in any order", 1, () -> x.value(5));
        x.cell(NOT, 7, 5, 0, 0);
        check.answers("the old value stays until it is built", 1, () -> x.value(5));
        check.answers("the new net's too", 3, () -> x.value(7));
        check.answers("one level more", 4, x::build);
        check.answers("settled on building", 0, () -> x.value(7));
        check.answers("ports stay as they were set", 1, () -> x.value(0));
        x.cell(XOR, 8, 8, 0, 0);
        check.refuses("a net that drives itself", Check.STATE, x, Circuit::build);
        check.answers("settlings", 4, () -> x.count(7));
    }

    void buildLevelLimit() {
        Circuit x = new Circuit();
        for (int i = 0; i < 30; i++) {
            x.cell(NOT, i + 1, i, 0, 0);
        }
        check.answers("level 30 may be", 30, x::build);
        check.answers("level of the last", 30, () -> x.level(30));
        x.cell(TRI, 31, 30, 30, 0);
        check.refuses("level 31 may not", Check.STATE, x, Circuit::build);
        check.refuses("it is no loop", Check.ELEMENT, x, Circuit::loop);
        Circuit y = Scenes.ports(1);
        for (int i = 0; i < 29; i++) {
            y.cell(NOT, i + 1, i, 0, 0);
        }
        check.answers("a port has level 1", 30, y::build);
        y.cell(NOT, 30, 29, 0, 0);
        check.refuses("one more", Check.STATE, y, Circuit::build);
    }

    void loop() {
        Circuit x = Scenes.ports(1);
        check.refuses("no loop", Check.ELEMENT, x, Circuit::loop);
        x.cell(REGISTER, 1, 2, 0, 0);
        x.cell(NOT, 2, 1, 0, 0);
        check.refuses("a register breaks it", Check.ELEMENT, x, Circuit::loop);
        x.cell(AND, 4, 0, 20, 0);
        x.cell(OR, 20, 30, 0, 0);
        x.cell(LATCH, 30, 0, 20, 0);
        check.answers("a latch does not; net 4 only hangs on it", 20, x::loop);
        x.cell(MUX, 10, 0, 0, 11);
        x.cell(TRI, 11, 0, 10, 0);
        check.answers("through c", 10, x::loop);
        x.stick(10, 1);
        check.answers("a stuck net is a loop all the same", 10, x::loop);
        x.cell(TRI, 39, 39, 0, 0);
        check.answers("not the greatest", 10, x::loop);
        x.cell(XOR, 3, 10, 3, 0);
        check.answers("on itself", 3, x::loop);
        Circuit y = new Circuit();
        y.part(0, NOT, 9, 5, 0, 0);
        y.part(0, NOT, 5, 9, 0, 0);
        y.instance(1, 0, 1);
        check.refuses("a template is no circuit", Check.ELEMENT, y, Circuit::loop);
        y.instance(0, 0, 1);
        check.answers("a loop of fresh nets", 40, y::loop);
        Circuit z = new Circuit();
        z.cell(TRI, 9, 1, 1, 0);
        z.cell(TRI, 9, 1, 8, 0);
        z.cell(NOT, 8, 9, 0, 0);
        check.answers("through the second driver", 8, z::loop);
        Circuit between = new Circuit();
        between.cell(OR, 20, 20, 0, 0);
        between.cell(NOT, 5, 20, 0, 0);
        between.cell(OR, 30, 30, 5, 0);
        check.answers("a net between two loops is none", 20, between::loop);
        Circuit zero = new Circuit();
        zero.cell(NOT, 7, 0, 0, 0);
        zero.cell(NOT, 0, 7, 0, 0);
        check.answers("net 0", 0, zero::loop);
        Circuit late = new Circuit();
        late.part(0, AND, 9, 7, 8, 0);
        late.part(0, NOT, 7, 6, 0, 0);
        late.part(0, NOT, 8, 9, 0, 0);
        late.instance(0, 0, 1);
        check.answers("net 41, local 7, only leads into it", 42, late::loop);
    }

    void set() {
        Circuit x = Scenes.ports(2);
        x.cell(NOT, 5, 0, 0, 0);
        check.refuses("not built", Check.STATE, x, c -> c.set(0, 1));
        check.refuses("not built, no value", Check.ARGUMENT, x, c -> c.set(0, 4));
        check.refuses("not built, no port", Check.ELEMENT, x, c -> c.set(2, 4));
        x.build();
        check.answers("a refused set changed nothing", 2, () -> x.value(0));
        for (int value = 0; value <= 3; value++) {
            int given = value;
            check.answers("set " + value, value, () -> x.set(0, given));
        }
        check.answers("each settles", 5, () -> x.count(7));
        check.answers("also to what it was", 3, () -> x.set(0, 3));
        check.answers("that settles too", 6, () -> x.count(7));
        check.refuses("value 4", Check.ARGUMENT, x, c -> c.set(1, 4));
        check.refuses("value -1", Check.ARGUMENT, x, c -> c.set(1, -1));
        check.refuses("no port", Check.ELEMENT, x, c -> c.set(2, 1));
        check.refuses("no cell", Check.ELEMENT, x, c -> c.set(3, 9));
        check.refuses("no cell", Check.ELEMENT, x, c -> c.set(-1, 1));
        x.stick(1, 0);
        check.answers("the net's value, not the port's", 0, () -> x.set(1, 1));
        x.stick(1, -1);
        check.answers("the port was set behind it", 1, () -> x.value(1));
    }

    void tick() {
        Circuit x = Scenes.ports(1);
        x.cell(REGISTER, 1, 0, 0, 0);
        x.cell(REGISTER, 2, 1, 0, 1);
        x.cell(REGISTER, 3, 2, 1, 2);
        x.cell(REGISTER, 4, 4, 1, 1);
        check.refuses("not built", Check.STATE, x, c -> c.tick(1));
        check.refuses("not built, no clock", Check.ARGUMENT, x, c -> c.tick(2));
        x.build();
        check.refuses("no clock", Check.ARGUMENT, x, c -> c.tick(-1));
        x.set(0, 1);
        check.answers("at once", 2, () -> x.tick(0));
        check.answers("the first took the port", 1, () -> x.value(1));
        check.answers("the second took what the first was", 0, () -> x.value(2));
        check.answers("the other clock's did not", 2, () -> x.value(3));
        check.answers("now it does", 1, () -> x.tick(1));
        check.answers("it took 0", 0, () -> x.state(3));
        check.answers("nothing new", 0, () -> x.tick(1));
        check.answers("a tick settles all the same", 5, () -> x.count(7));
        x.set(0, 3);
        check.answers("FLOATING is taken", 2, () -> x.tick(0));
        check.answers("as UNKNOWN", 2, () -> x.state(1));
        check.answers("and no change after", 1, () -> x.tick(0));
        x.stick(0, 0);
        check.answers("a stuck net is taken as stuck", 1, () -> x.tick(0));
        check.answers("at 0", 0, () -> x.state(1));
        Circuit swap = new Circuit();
        swap.cell(REGISTER, 0, 1, 0, 0);
        swap.cell(REGISTER, 1, 0, 0, 1);
        swap.build();
        check.answers("two registers swap", 2, () -> swap.tick(0));
        check.answers("swapped", 1, () -> swap.value(0));
        check.answers("swapped", 0, () -> swap.value(1));
    }

    void stick() {
        Circuit x = Scenes.ports(1);
        x.cell(NOT, 1, 0, 0, 0);
        check.answers("before building", 1, () -> x.stick(0, 1));
        check.answers("it does not settle", 0, () -> x.count(7));
        check.answers("nor shows", 2, () -> x.value(0));
        x.build();
        check.answers("on building it does", 0, () -> x.value(1));
        check.answers("the same again", 0, () -> x.stick(0, 1));
        check.answers("settles all the same", 2, () -> x.count(7));
        check.answers("another value", 1, () -> x.stick(0, 2));
        check.answers("unknown", 2, () -> x.value(1));
        check.answers("and to 0", 1, () -> x.stick(0, 0));
        check.answers("what it drives", 1, () -> x.value(1));
        check.answers("no more", 1, () -> x.stick(0, -1));
        check.answers("no more again", 0, () -> x.stick(0, -1));
        check.answers("the port's value is back", 2, () -> x.value(0));
        x.set(0, 1);
        check.answers("stuck at what it is", 1, () -> x.stick(0, 1));
        check.answers("a net without drivers", 1, () -> x.stick(39, 0));
        check.answers("has the value", 0, () -> x.value(39));
        check.answers("the level is as before", 0, () -> x.level(39));
        check.answers("it stays built", 1, () -> x.count(3));
        check.refuses("no net", Check.ELEMENT, x, c -> c.stick(40, 0));
        check.refuses("no net, no value", Check.ELEMENT, x, c -> c.stick(-1, 7));
        check.refuses("FLOATING", Check.ARGUMENT, x, c -> c.stick(0, 3));
        check.refuses("-2", Check.ARGUMENT, x, c -> c.stick(0, -2));
        Circuit y = Scenes.ports(4);
        y.cell(TRI, 5, 0, 1, 0);
        y.cell(TRI, 5, 2, 3, 0);
        y.build();
        y.stick(5, 1);
        check.answers("drivers that share do not matter", 1, () -> y.value(5));
        y.cell(NOT, 6, 5, 0, 0);
        check.answers("nor does making a cell", 1, () -> y.value(5));
        y.build();
        check.answers("stuck stays over building", 0, () -> y.value(6));
    }

    void value() {
        Circuit x = Scenes.ports(1);
        check.refuses("-1", Check.ELEMENT, x, c -> c.value(-1));
        check.refuses("40", Check.ELEMENT, x, c -> c.value(40));
        check.answers("unknown before", 2, () -> x.value(39));
        x.build();
        check.answers("floating without drivers", 3, () -> x.value(39));
        x.set(0, 1);
        x.cell(PORT, 39, 0, 0, 0);
        check.answers("as last settled", 3, () -> x.value(39));
        check.answers("as last settled", 1, () -> x.value(0));
    }

    void level() {
        Circuit x = Scenes.ports(2);
        x.cell(REGISTER, 2, 8, 0, 0);
        x.cell(TRI, 5, 9, 9, 0);
        x.cell(TRI, 5, 0, 6, 0);
        x.cell(NOT, 6, 1, 0, 0);
        x.cell(MUX, 7, 9, 9, 5);
        x.cell(LATCH, 8, 9, 7, 0);
        check.refuses("not built", Check.STATE, x, c -> c.level(0));
        check.refuses("not built, no net", Check.ELEMENT, x, c -> c.level(40));
        check.answers("greatest", 5, x::build);
        int[] due = {1, 1, 1, 0, 0, 3, 2, 4, 5, 0};
        for (int net = 0; net < due.length; net++) {
            int asked = net;
            check.answers("level " + net, due[net], () -> x.level(asked));
        }
        check.refuses("no net", Check.ELEMENT, x, c -> c.level(-1));
        x.cell(PORT, 20, 0, 0, 0);
        check.refuses("not built any more", Check.STATE, x, c -> c.level(0));
    }

    void flips() {
        Circuit x = Scenes.ports(1);
        x.cell(NOT, 1, 0, 0, 0);
        x.build();
        int[] values = {0, 1, 1, 2, 0, 3, 1, 0, 1};
        int[] due = {0, 1, 1, 1, 1, 1, 1, 2, 3};
        for (int i = 0; i < values.length; i++) {
            x.set(0, values[i]);
            check.answers("flips after set " + i, due[i], () -> x.flips(0));
            check.answers("flips of NOT after set " + i, due[i], () -> x.flips(1));
        }
        x.stick(0, 0);
        check.answers("sticking turns", 4, () -> x.flips(0));
        x.stick(0, -1);
        check.answers("and ending it", 5, () -> x.flips(0));
        x.cell(PORT, 2, 0, 0, 0);
        x.stick(0, 0);
        check.answers("not before it settles", 5, () -> x.flips(0));
        x.build();
        check.answers("building settles and turns", 6, () -> x.flips(0));
        check.answers("no driver, no turns", 0, () -> x.flips(39));
        check.refuses("no net", Check.ELEMENT, x, c -> c.flips(40));
        check.refuses("no net", Check.ELEMENT, x, c -> c.flips(-1));
    }

    void state() {
        Circuit x = Scenes.ports(2);
        for (int first = 0; first <= 2; first++) {
            int given = first;
            x.cell(REGISTER, 10 + first, 0, 1, first);
            check.answers("first state " + first, first, () -> x.state(2 + given));
        }
        x.cell(LATCH, 20, 0, 1, 0);
        check.answers("a latch at first", 2, () -> x.state(5));
        x.cell(TRI, 21, 0, 1, 0);
        check.refuses("a port", Check.ELEMENT, x, c -> c.state(0));
        check.refuses("a TRI", Check.ELEMENT, x, c -> c.state(6));
        check.refuses("no cell", Check.ELEMENT, x, c -> c.state(7));
        check.refuses("no cell", Check.ELEMENT, x, c -> c.state(-1));
        x.build();
        x.set(0, 1);
        x.set(1, 1);
        check.answers("an open latch", 1, () -> x.state(5));
        check.answers("a register waits for its clock", 0, () -> x.state(2));
        x.tick(1);
        check.answers("and takes it", 1, () -> x.state(2));
        x.cell(PORT, 30, 0, 0, 0);
        check.answers("states stay over changes", 1, () -> x.state(2));
        x.build();
        check.answers("and over building", 1, () -> x.state(2));
        check.answers("latches too", 1, () -> x.state(5));
    }

    /** What a latch was is its own value, whatever its net is stuck at. */
    void latchThatIsStuck() {
        Circuit x = Scenes.ports(2);
        x.cell(LATCH, 5, 0, 1, 0);
        x.build();
        x.set(0, 1);
        x.set(1, 1);
        x.stick(5, 0);
        check.answers("the net", 0, () -> x.value(5));
        check.answers("the latch", 1, () -> x.state(2));
        x.set(1, 0);
        x.stick(5, -1);
        check.answers("the net has the latch's value again", 1, () -> x.value(5));
        x.stick(0, 0);
        x.set(1, 2);
        check.answers("no more known", 2, () -> x.state(2));
    }

    void reset() {
        Circuit x = Scenes.ports(2);
        x.cell(REGISTER, 2, 0, 0, 1);
        x.cell(LATCH, 3, 0, 1, 0);
        x.build();
        x.set(0, 1);
        x.set(1, 1);
        x.set(1, 0);
        x.set(0, 0);
        x.tick(0);
        x.stick(39, 1);
        check.answers("turns in all", 3, x::reset);
        check.answers("settlings go on", 8, () -> x.count(7));
        check.answers("the register's first state", 1, () -> x.state(2));
        check.answers("on its net", 1, () -> x.value(2));
        check.answers("the latch", 2, () -> x.state(3));
        check.answers("on its net", 2, () -> x.value(3));
        check.answers("nothing stuck", 3, () -> x.value(39));
        check.answers("ports stay", 0, () -> x.value(0));
        for (int net = 0; net < 40; net++) {
            int asked = net;
            check.answers("no turns", 0, () -> x.flips(asked));
        }
        check.answers("no turns since", 0, x::reset);
        check.answers("it is built still", 1, () -> x.count(3));
        x.set(0, 1);
        x.stick(5, 1);
        x.cell(PORT, 4, 0, 0, 0);
        check.answers("not built", 1, x::reset);
        check.answers("it does not settle", 11, () -> x.count(7));
        check.answers("all values unknown", 40, () -> x.count(5));
        check.answers("no turns", 0, () -> x.flips(0));
        x.build();
        check.answers("the port's value is back", 1, () -> x.value(0));
        check.answers("without a turn", 0, () -> x.flips(0));
        check.answers("nothing is stuck", 3, () -> x.value(5));
    }

    void count() {
        Circuit alone = new Circuit();
        alone.cell(REGISTER, 0, 1, 0, 1);
        check.answers("a register that is cell 0", 1, () -> alone.count(2));
        alone.build();
        alone.tick(0);
        check.answers("it took UNKNOWN", 2, () -> alone.state(0));
        alone.reset();
        check.answers("and is reset", 1, () -> alone.state(0));
        Circuit x = Scenes.ports(4);
        x.cell(REGISTER, 5, 0, 1, 0);
        x.cell(REGISTER, 6, 0, 0, 1);
        x.part(0, REGISTER, 2, 1, 0, 2);
        x.instance(0, 0, 1);
        x.build();
        x.set(0, 1);
        x.set(1, 3);
        int[] due = {41, 7, 3, 1, 3, 3, 35, 3};
        for (int what = 0; what < due.length; what++) {
            int asked = what;
            check.answers("count " + what, due[what], () -> x.count(asked));
        }
        check.refuses("count 8", Check.ARGUMENT, x, c -> c.count(8));
        check.refuses("count -1", Check.ARGUMENT, x, c -> c.count(-1));
        check.refuses("count of the least number", Check.ARGUMENT, x, c -> c.count(MIN));
    }
}
