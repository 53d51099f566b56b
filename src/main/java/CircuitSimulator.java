import java.util.Arrays;
import java.util.NoSuchElementException;

/** A circuit of cells and nets that is put into levels and simulated with four values. */
public final class CircuitSimulator {
    private static final int UNKNOWN = 2;
    private static final int FLOATING = 3;
    private static final int NOT_STUCK = -1;
    private static final int NONE = -1;

    private static final int PORT = 0;
    private static final int NOT = 1;
    private static final int AND = 2;
    private static final int OR = 3;
    private static final int XOR = 4;
    private static final int MUX = 5;
    private static final int TRI = 6;
    private static final int LATCH = 7;
    private static final int REGISTER = 8;
    private static final int KINDS = 9;

    private static final int CLOCKS = 2;
    private static final int STATES = 3;
    private static final int TEMPLATES = 2;
    private static final int FIRST_NETS = 40;
    private static final int MOST_NETS = 80;
    private static final int MOST_CELLS = 60;
    private static final int MOST_PARTS = 10;
    private static final int LOCAL_NETS = 10;
    private static final int GREATEST_LEVEL = 30;

    /** How many of a, b and c are nets, by kind. */
    private static final int[] INPUTS = {0, 1, 2, 2, 2, 3, 2, 2, 1};

    private final Cells cells = new Cells(MOST_CELLS);
    private final Cells firstTemplate = new Cells(MOST_PARTS);
    private final Cells secondTemplate = new Cells(MOST_PARTS);
    private final Nets nets = new Nets();
    private final Levels levels = new Levels();
    private final Dependence dependence = new Dependence();
    private final Placement placement = new Placement();
    private boolean built = false;
    private int settlings = 0;

    public CircuitSimulator() {
    }

    public int cell(int kind, int out, int a, int b, int c)
            throws IllegalArgumentException, UnsupportedOperationException, IllegalStateException {
        if (!fits(kind, out, a, b, c, nets.size)) {
            throw new IllegalArgumentException("no such kind, net, clock or state");
        }
        if (!cells.mayDrive(out, kind)) {
            throw new UnsupportedOperationException("the net has a driver that shares with none");
        }
        if (cells.size >= MOST_CELLS) {
            throw new IllegalStateException("no more cells can be made");
        }
        cells.add(kind, out, a, b, c);
        built = false;
        return cells.size - 1;
    }

    public int part(int template, int kind, int out, int a, int b, int c)
            throws IllegalArgumentException, IllegalStateException {
        if (!within(template, TEMPLATES) || kind == PORT || !fits(kind, out, a, b, c, LOCAL_NETS)) {
            throw new IllegalArgumentException("no such template, kind, local net, clock or state");
        }
        Cells parts = partsOf(template);
        if (parts.size >= MOST_PARTS) {
            throw new IllegalStateException("the template is full");
        }
        parts.add(kind, out, a, b, c);
        return parts.size;
    }

    public int instance(int template, int x, int y)
            throws IllegalArgumentException, UnsupportedOperationException, IllegalStateException {
        if (!within(template, TEMPLATES) || !within(x, nets.size) || !within(y, nets.size)) {
            throw new IllegalArgumentException("no such template or net");
        }
        Cells parts = partsOf(template);
        placement.place(parts, x, y, nets.size);
        if (!placement.mayDrive(parts, cells)) {
            throw new UnsupportedOperationException("a net would get drivers that cannot share it");
        }
        if (cells.size + parts.size > MOST_CELLS || placement.netsThen > MOST_NETS) {
            throw new IllegalStateException("too many cells or nets");
        }
        placement.copyInto(parts, cells);
        nets.size = placement.netsThen;
        built = false;
        return nets.size;
    }

    public int build() throws IllegalStateException {
        if (built) {
            return levels.greatest;
        }
        if (!levels.rank(cells, nets.size)) {
            throw new IllegalStateException("there is a loop or a level that is too great");
        }
        built = true;
        settle();
        return levels.greatest;
    }

    public int loop() throws NoSuchElementException {
        int least = dependence.leastLoop(cells, nets.size);
        if (least == NONE) {
            throw new NoSuchElementException("there is no loop");
        }
        return least;
    }

    public int set(int cell, int value)
            throws NoSuchElementException, IllegalArgumentException, IllegalStateException {
        if (!cells.isOfKind(cell, PORT)) {
            throw new NoSuchElementException("no such port");
        }
        if (value < 0 || value > FLOATING) {
            throw new IllegalArgumentException("no such value");
        }
        if (!built) {
            throw new IllegalStateException("the circuit is not built");
        }
        cells.held[cell] = value;
        settle();
        return nets.settled[cells.out[cell]];
    }

    public int tick(int clock) throws IllegalArgumentException, IllegalStateException {
        if (!within(clock, CLOCKS)) {
            throw new IllegalArgumentException("no such clock");
        }
        if (!built) {
            throw new IllegalStateException("the circuit is not built");
        }
        int changed = 0;
        for (int i = 0; i < cells.size; i++) {
            if (cells.kind[i] == REGISTER && cells.b[i] == clock && takeInput(i)) {
                changed++;
            }
        }
        settle();
        return changed;
    }

    public int stick(int net, int value) throws NoSuchElementException, IllegalArgumentException {
        if (!within(net, nets.size)) {
            throw new NoSuchElementException("no such net");
        }
        if (value < NOT_STUCK || value > UNKNOWN) {
            throw new IllegalArgumentException("a net cannot be stuck at that");
        }
        int changed = nets.stuck[net] == value ? 0 : 1;
        nets.stuck[net] = value;
        settleIfBuilt();
        return changed;
    }

    public int value(int net) throws NoSuchElementException {
        if (!within(net, nets.size)) {
            throw new NoSuchElementException("no such net");
        }
        return nets.settled[net];
    }

    public int level(int net) throws NoSuchElementException, IllegalStateException {
        if (!within(net, nets.size)) {
            throw new NoSuchElementException("no such net");
        }
        if (!built) {
            throw new IllegalStateException("the circuit is not built");
        }
        return levels.ofNet[net];
    }

    public int flips(int net) throws NoSuchElementException {
        if (!within(net, nets.size)) {
            throw new NoSuchElementException("no such net");
        }
        return nets.turns[net];
    }

    public int state(int cell) throws NoSuchElementException {
        if (!cells.isOfKind(cell, REGISTER) && !cells.isOfKind(cell, LATCH)) {
            throw new NoSuchElementException("no such register or latch");
        }
        return cells.held[cell];
    }

    public int reset() {
        int turns = nets.allTurns();
        cells.holdAsAtFirst();
        nets.forget();
        settleIfBuilt();
        return turns;
    }

    public int count(int what) throws IllegalArgumentException {
        switch (what) {
            case 0:
                return nets.size;
            case 1:
                return cells.size;
            case 2:
                return cells.registers();
            case 3:
                return built ? 1 : 0;
            case 4:
                return nets.withValue(0) + nets.withValue(1);
            case 5:
                return nets.withValue(UNKNOWN);
            case 6:
                return nets.withValue(FLOATING);
            case 7:
                return settlings;
            default:
                throw new IllegalArgumentException("nothing is counted under that number");
        }
    }

    private static boolean within(int number, int limit) {
        return number >= 0 && number < limit;
    }

    /** Whether a cell's numbers are all in their ranges; what its kind has no use for is not looked at. */
    private static boolean fits(int kind, int out, int a, int b, int c, int netLimit) {
        if (!within(kind, KINDS) || !within(out, netLimit)) {
            return false;
        }
        int inputs = INPUTS[kind];
        if (inputs > 0 && !within(a, netLimit)) {
            return false;
        }
        if (inputs > 1 && !within(b, netLimit)) {
            return false;
        }
        if (inputs > 2 && !within(c, netLimit)) {
            return false;
        }
        return kind != REGISTER || within(b, CLOCKS) && within(c, STATES);
    }

    private Cells partsOf(int template) {
        return template == 0 ? firstTemplate : secondTemplate;
    }

    private void settleIfBuilt() {
        if (built) {
            settle();
        }
    }

    private void settle() {
        nets.beginSettling();
        for (int i = 0; i < cells.size; i++) {
            int next = levels.order[i];
            nets.drive(cells.out[next], driven(next));
        }
        nets.endSettling();
        settlings++;
    }

    /** What a cell drives; each cell is asked once a settling, so a latch may keep its new value here. */
    private int driven(int cell) {
        int a = inputAt(cell, 0);
        int b = inputAt(cell, 1);
        switch (cells.kind[cell]) {
            case NOT:
                return Logic.not(a);
            case AND:
                return Logic.and(a, b);
            case OR:
                return Logic.or(a, b);
            case XOR:
                return Logic.xor(a, b);
            case MUX:
                return Logic.mux(a, b, inputAt(cell, 2));
            case TRI:
                return Logic.tri(a, b);
            case LATCH:
                cells.held[cell] = Logic.latch(a, b, cells.held[cell]);
                return cells.held[cell];
            default:
                return cells.held[cell];
        }
    }

    /** The input during a settling; UNKNOWN at a place where the cell has none. */
    private int inputAt(int cell, int place) {
        if (place >= cells.dependencies(cell)) {
            return UNKNOWN;
        }
        return Logic.asInput(nets.coming[cells.input(cell, place)]);
    }

    /** Takes the settled input, which no other register's new state can reach before the next settling. */
    private boolean takeInput(int register) {
        int taken = Logic.asInput(nets.settled[cells.a[register]]);
        boolean changed = cells.held[register] != taken;
        cells.held[register] = taken;
        return changed;
    }

    /** The values that kinds of cells make out of inputs, and that drivers make together. */
    private static final class Logic {
        static int asInput(int value) {
            return value == FLOATING ? UNKNOWN : value;
        }

        static int not(int a) {
            return a == UNKNOWN ? UNKNOWN : 1 - a;
        }

        static int and(int a, int b) {
            if (a == 0 || b == 0) {
                return 0;
            }
            return a == 1 && b == 1 ? 1 : UNKNOWN;
        }

        static int or(int a, int b) {
            if (a == 1 || b == 1) {
                return 1;
            }
            return a == 0 && b == 0 ? 0 : UNKNOWN;
        }

        static int xor(int a, int b) {
            if (a == UNKNOWN || b == UNKNOWN) {
                return UNKNOWN;
            }
            return a == b ? 0 : 1;
        }

        static int mux(int a, int b, int choice) {
            if (choice == UNKNOWN) {
                return a == b ? a : UNKNOWN;
            }
            return choice == 0 ? a : b;
        }

        static int tri(int a, int open) {
            if (open == UNKNOWN) {
                return UNKNOWN;
            }
            return open == 1 ? a : FLOATING;
        }

        static int latch(int a, int open, int was) {
            if (open == UNKNOWN) {
                return a == was ? a : UNKNOWN;
            }
            return open == 1 ? a : was;
        }

        static int together(int one, int other) {
            if (one == FLOATING) {
                return other;
            }
            return other == FLOATING || other == one ? one : UNKNOWN;
        }

        static boolean turns(int was, int is) {
            return was == 0 && is == 1 || was == 1 && is == 0;
        }
    }

    /** Rows of cells, those of the circuit or those of a template. */
    private static final class Cells {
        final int[] kind;
        final int[] out;
        final int[] a;
        final int[] b;
        final int[] c;
        /** What a port was set to, a register's state, or what a latch was. */
        final int[] held;
        int size = 0;

        Cells(int most) {
            kind = new int[most];
            out = new int[most];
            a = new int[most];
            b = new int[most];
            c = new int[most];
            held = new int[most];
        }

        void add(int newKind, int newOut, int newA, int newB, int newC) {
            kind[size] = newKind;
            out[size] = newOut;
            a[size] = newA;
            b[size] = newB;
            c[size] = newC;
            held[size] = newKind == REGISTER ? newC : UNKNOWN;
            size++;
        }

        boolean isOfKind(int cell, int asked) {
            return within(cell, size) && kind[cell] == asked;
        }

        int inputs(int cell) {
            return INPUTS[kind[cell]];
        }

        /** How many of its inputs reach a cell's output within one settling. */
        int dependencies(int cell) {
            return kind[cell] == REGISTER ? 0 : inputs(cell);
        }

        int input(int cell, int place) {
            if (place == 0) {
                return a[cell];
            }
            return place == 1 ? b[cell] : c[cell];
        }

        boolean mayDrive(int net, int newKind) {
            for (int i = 0; i < size; i++) {
                if (out[i] == net && (kind[i] != TRI || newKind != TRI)) {
                    return false;
                }
            }
            return true;
        }

        int registers() {
            int found = 0;
            for (int i = 0; i < size; i++) {
                if (kind[i] == REGISTER) {
                    found++;
                }
            }
            return found;
        }

        void holdAsAtFirst() {
            for (int i = 0; i < size; i++) {
                if (kind[i] == REGISTER) {
                    held[i] = c[i];
                } else if (kind[i] == LATCH) {
                    held[i] = UNKNOWN;
                }
            }
        }
    }

    /** Rows of nets; those at size and above are not there yet, and are as new. */
    private static final class Nets {
        final int[] settled = new int[MOST_NETS];
        final int[] coming = new int[MOST_NETS];
        final int[] stuck = new int[MOST_NETS];
        final int[] turns = new int[MOST_NETS];
        int size = FIRST_NETS;

        Nets() {
            Arrays.fill(settled, UNKNOWN);
            Arrays.fill(stuck, NOT_STUCK);
        }

        void beginSettling() {
            for (int i = 0; i < size; i++) {
                coming[i] = stuck[i] == NOT_STUCK ? FLOATING : stuck[i];
            }
        }

        void drive(int net, int driven) {
            if (stuck[net] == NOT_STUCK) {
                coming[net] = Logic.together(coming[net], driven);
            }
        }

        void endSettling() {
            for (int i = 0; i < size; i++) {
                if (Logic.turns(settled[i], coming[i])) {
                    turns[i]++;
                }
                settled[i] = coming[i];
            }
        }

        int withValue(int asked) {
            int found = 0;
            for (int i = 0; i < size; i++) {
                if (settled[i] == asked) {
                    found++;
                }
            }
            return found;
        }

        int allTurns() {
            int sum = 0;
            for (int i = 0; i < size; i++) {
                sum += turns[i];
            }
            return sum;
        }

        void forget() {
            Arrays.fill(settled, UNKNOWN);
            Arrays.fill(stuck, NOT_STUCK);
            Arrays.fill(turns, 0);
        }
    }

    /** The levels of the nets, and an order of the cells in which each comes after all it depends on. */
    private static final class Levels {
        /** Above every level that may be, so that no cell is ready that has such an input. */
        private static final int UNRANKED = GREATEST_LEVEL + 1;

        final int[] ofNet = new int[MOST_NETS];
        final int[] order = new int[MOST_CELLS];
        int greatest = 0;
        private final int[] waitingDrivers = new int[MOST_NETS];
        private final boolean[] ordered = new boolean[MOST_CELLS];
        private int orderedCells = 0;

        /** Answers false if a loop or a level that is too great leaves cells without a place. */
        boolean rank(Cells cells, int netCount) {
            begin(cells, netCount);
            for (int level = 1; level <= GREATEST_LEVEL; level++) {
                rankOneLevel(cells, level);
            }
            return orderedCells == cells.size;
        }

        private void begin(Cells cells, int netCount) {
            greatest = 0;
            orderedCells = 0;
            for (int i = 0; i < netCount; i++) {
                ofNet[i] = 0;
                waitingDrivers[i] = 0;
            }
            for (int i = 0; i < cells.size; i++) {
                ordered[i] = false;
                ofNet[cells.out[i]] = UNRANKED;
                waitingDrivers[cells.out[i]]++;
            }
        }

        private void rankOneLevel(Cells cells, int level) {
            for (int i = 0; i < cells.size; i++) {
                if (!ordered[i] && isReady(cells, i, level)) {
                    placeNext(i, cells.out[i], level);
                }
            }
        }

        private boolean isReady(Cells cells, int cell, int level) {
            int places = cells.dependencies(cell);
            for (int place = 0; place < places; place++) {
                if (ofNet[cells.input(cell, place)] >= level) {
                    return false;
                }
            }
            return true;
        }

        private void placeNext(int cell, int out, int level) {
            ordered[cell] = true;
            order[orderedCells] = cell;
            orderedCells++;
            greatest = level;
            waitingDrivers[out]--;
            if (waitingDrivers[out] == 0) {
                ofNet[out] = level;
            }
        }
    }

    /** Which nets each net comes to depend on, as bits: nets 0 .. 39 in one row, 40 .. 79 in the other. */
    private static final class Dependence {
        private final long[] onFirst = new long[MOST_NETS];
        private final long[] onLater = new long[MOST_NETS];

        int leastLoop(Cells cells, int netCount) {
            begin(cells);
            for (int middle = 0; middle < netCount; middle++) {
                goThrough(middle, netCount);
            }
            for (int net = 0; net < netCount; net++) {
                if (isOn(net, net)) {
                    return net;
                }
            }
            return NONE;
        }

        private void begin(Cells cells) {
            Arrays.fill(onFirst, 0L);
            Arrays.fill(onLater, 0L);
            for (int i = 0; i < cells.size; i++) {
                int places = cells.dependencies(i);
                for (int place = 0; place < places; place++) {
                    note(cells.out[i], cells.input(i, place));
                }
            }
        }

        private void note(int net, int needed) {
            if (needed < FIRST_NETS) {
                onFirst[net] |= 1L << needed;
            } else {
                onLater[net] |= 1L << (needed - FIRST_NETS);
            }
        }

        private boolean isOn(int net, int needed) {
            if (needed < FIRST_NETS) {
                return (onFirst[net] & (1L << needed)) != 0L;
            }
            return (onLater[net] & (1L << (needed - FIRST_NETS))) != 0L;
        }

        private void goThrough(int middle, int netCount) {
            for (int net = 0; net < netCount; net++) {
                if (isOn(net, middle)) {
                    onFirst[net] |= onFirst[middle];
                    onLater[net] |= onLater[middle];
                }
            }
        }
    }

    /** Where the local nets of a template come to lie in an instance. */
    private static final class Placement {
        private final int[] netOf = new int[LOCAL_NETS];
        private final boolean[] named = new boolean[LOCAL_NETS];
        int netsThen = 0;

        void place(Cells parts, int x, int y, int netCount) {
            findNamed(parts);
            netOf[0] = x;
            netOf[1] = y;
            netsThen = netCount;
            for (int local = 2; local < LOCAL_NETS; local++) {
                if (named[local]) {
                    netOf[local] = netsThen;
                    netsThen++;
                }
            }
        }

        private void findNamed(Cells parts) {
            for (int local = 0; local < LOCAL_NETS; local++) {
                named[local] = false;
            }
            for (int i = 0; i < parts.size; i++) {
                named[parts.out[i]] = true;
                int places = parts.inputs(i);
                for (int place = 0; place < places; place++) {
                    named[parts.input(i, place)] = true;
                }
            }
        }

        boolean mayDrive(Cells parts, Cells cells) {
            for (int i = 0; i < parts.size; i++) {
                int net = netOf[parts.out[i]];
                if (!cells.mayDrive(net, parts.kind[i]) || clashesWithEarlier(parts, i, net)) {
                    return false;
                }
            }
            return true;
        }

        private boolean clashesWithEarlier(Cells parts, int part, int net) {
            for (int i = 0; i < part; i++) {
                boolean bothShare = parts.kind[i] == TRI && parts.kind[part] == TRI;
                if (netOf[parts.out[i]] == net && !bothShare) {
                    return true;
                }
            }
            return false;
        }

        void copyInto(Cells parts, Cells cells) {
            for (int i = 0; i < parts.size; i++) {
                int a = placed(parts, i, 0);
                int b = placed(parts, i, 1);
                int c = placed(parts, i, 2);
                cells.add(parts.kind[i], netOf[parts.out[i]], a, b, c);
            }
        }

        /** Only an input is a local net: a clock, a state or an unused number stays as it is. */
        private int placed(Cells parts, int part, int place) {
            int given = parts.input(part, place);
            return place < parts.inputs(part) ? netOf[given] : given;
        }
    }
}
