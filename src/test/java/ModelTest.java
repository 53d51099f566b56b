import java.util.Random;
import java.util.function.IntSupplier;

/** Runs of up to 512 calls from fixed seeds, on the program and on the model of it. */
final class ModelTest {
    private static final int RUNS = 2400;
    /** So many that the questions at the end still lie within the 512 calls of an object. */
    private static final int CALLS = 419;

    private final Random random;
    private final int run;
    private final Circuit program = new Circuit();
    private final Model model = new Model();
    /** How many nets this run mostly uses: few make loops and clashes, many make deep circuits. */
    private final int width;
    private final boolean upward;
    /** Most cells of such a run stand one behind the other, so that it comes to levels 30 and 31. */
    private final boolean deep;

    private ModelTest(int run) {
        this.run = run;
        random = new Random(run);
        width = 6 + random.nextInt(70);
        upward = random.nextInt(4) > 0;
        deep = random.nextInt(8) == 0;
    }

    public static void main(String[] args) {
        Check whole = new Check();
        for (int run = 0; run < RUNS; run++) {
            new ModelTest(run).go(whole);
        }
        whole.finish("ModelTest");
    }

    private void go(Check whole) {
        int making = 20 + random.nextInt(120);
        for (int i = 0; i < CALLS; i++) {
            int what = random.nextInt(i < making ? 8 : 40);
            one(whole, what);
        }
        same(whole, "loop()", model::loop, program::loop);
        for (int what = -1; what <= 8; what++) {
            int asked = what;
            same(whole, "count(" + what + ")", () -> model.count(asked), () -> program.count(asked));
        }
        for (int i = -1; i <= 80; i++) {
            askAtTheEnd(whole, i);
        }
    }

    /** One sort of question a run, since all four would be too many calls. */
    private void askAtTheEnd(Check whole, int i) {
        switch (run % 4) {
            case 0:
                same(whole, "value(" + i + ")", () -> model.value(i), () -> program.value(i));
                break;
            case 1:
                same(whole, "flips(" + i + ")", () -> model.flips(i), () -> program.flips(i));
                break;
            case 2:
                same(whole, "state(" + i + ")", () -> model.state(i), () -> program.state(i));
                break;
            default:
                same(whole, "level(" + i + ")", () -> model.level(i), () -> program.level(i));
        }
    }

    private void same(Check whole, String call, IntSupplier due, IntSupplier got) {
        whole.equal("run " + run + ": " + call, Check.outcome(due), Check.outcome(got));
    }

    private void one(Check whole, int what) {
        int net = net();
        int cell = random.nextInt(64) - 1;
        int value = random.nextInt(20) == 0 ? random.nextInt(9) - 3 : random.nextInt(4);
        int clock = random.nextInt(20) == 0 ? random.nextInt(5) - 2 : random.nextInt(2);
        switch (what) {
            case 0: case 1: case 2: case 3:
                newCell(whole);
                break;
            case 4: case 5:
                newPart(whole, clock);
                break;
            case 6: {
                int y = net();
                same(whole, "instance(" + clock + ", " + net + ", " + y + ")",
                        () -> model.instance(clock, net, y), () -> program.instance(clock, net, y));
                break;
            }
            case 7: case 8: case 9:
                same(whole, "build()", model::build, program::build);
                break;
            case 10:
                same(whole, "loop()", model::loop, program::loop);
                break;
            case 11: case 12: case 13: case 14: case 15:
                same(whole, "tick(" + clock + ")", () -> model.tick(clock), () -> program.tick(clock));
                break;
            case 16: case 17:
                same(whole, "stick(" + net + ", " + (value - 1) + ")",
                        () -> model.stick(net, value - 1), () -> program.stick(net, value - 1));
                break;
            case 18:
                if (random.nextInt(5) == 0) {
                    same(whole, "reset()", model::reset, program::reset);
                }
                break;
            case 19:
                same(whole, "value(" + net + ")", () -> model.value(net), () -> program.value(net));
                break;
            case 20:
                same(whole, "level(" + net + ")", () -> model.level(net), () -> program.level(net));
                break;
            case 21:
                same(whole, "flips(" + net + ")", () -> model.flips(net), () -> program.flips(net));
                break;
            case 22:
                same(whole, "state(" + cell + ")", () -> model.state(cell), () -> program.state(cell));
                break;
            case 23: {
                int asked = random.nextInt(10) - 1;
                same(whole, "count(" + asked + ")", () -> model.count(asked), () -> program.count(asked));
                break;
            }
            default:
                same(whole, "set(" + cell + ", " + value + ")", () -> model.set(cell, value), () -> program.set(cell, value));
        }
    }

    private int net() {
        return random.nextInt(60) == 0 ? random.nextInt(84) - 2 : random.nextInt(width);
    }

    /** Mostly a kind that is there; a run that goes upward takes inputs below out, so that it can be built. */
    private void newCell(Check whole) {
        int kind = random.nextInt(60) == 0 ? random.nextInt(13) - 2 : deep ? 1 + random.nextInt(7) : random.nextInt(9);
        int out = deep ? (model.count(1) + 1) % 40 : net();
        int below = upward || deep ? Math.max(out, 1) : width;
        int a = random.nextInt(100) == 0 ? net() : deep ? below - 1 : random.nextInt(below);
        int b = kind == 8 ? random.nextInt(2) : random.nextInt(100) == 0 ? net() : random.nextInt(below);
        int c = kind == 8 ? random.nextInt(3) : random.nextInt(100) == 0 ? net() : random.nextInt(below);
        String call = "cell(" + kind + ", " + out + ", " + a + ", " + b + ", " + c + ")";
        same(whole, call, () -> model.cell(kind, out, a, b, c), () -> program.cell(kind, out, a, b, c));
    }

    private void newPart(Check whole, int template) {
        int kind = random.nextInt(30) == 0 ? random.nextInt(13) - 2 : 1 + random.nextInt(8);
        int out = local();
        int a = local();
        int b = kind == 8 ? random.nextInt(2) : local();
        int c = kind == 8 ? random.nextInt(3) : local();
        String call = "part(" + template + ", " + kind + ", " + out + ", " + a + ", " + b + ", " + c + ")";
        same(whole, call, () -> model.part(template, kind, out, a, b, c), () -> program.part(template, kind, out, a, b, c));
    }

    private int local() {
        return random.nextInt(60) == 0 ? random.nextInt(14) - 2 : random.nextInt(10);
    }
}
