/** Promise 3 at its bounds: templates, kinds, local nets, clocks and states, ten cells, and the order of testing. */
final class PartBoundsTest extends Suite {
    public static void main(String[] args) throws ReflectiveOperationException {
        run(new PartBoundsTest());
    }

    private static final int LOCAL_NETS = 10;

    /** TRIs on local net 3, so that an instance may have them all. */
    private static Circuit withParts(int inFirst, int inSecond) {
        Circuit x = new Circuit();
        for (int i = 0; i < inFirst; i++) {
            x.part(0, TRI, 3, 5, 6, 0);
        }
        for (int i = 0; i < inSecond; i++) {
            x.part(1, TRI, 3, 5, 6, 0);
        }
        return x;
    }

    void theFirstAndTheLastTemplate() {
        for (int template = 0; template <= 1; template++) {
            int given = template;
            check.answers("template " + template, 1, () -> new Circuit().part(given, NOT, 3, 5, 0, 0));
        }
    }

    void templatesBeyondThem() {
        for (int template : new int[] {-1, 2, MIN, MAX}) {
            check.refuses("template " + template, Check.ARGUMENT, new Circuit(), c -> c.part(template, NOT, 3, 5, 0, 0));
        }
    }

    void theFirstAndTheLastKind() {
        check.answers("kind 1", 1, () -> new Circuit().part(0, NOT, 3, 5, 6, 7));
        check.answers("kind 8", 1, () -> new Circuit().part(0, REGISTER, 3, 5, 0, 0));
    }

    void kindsBeyondThem() {
        for (int kind : new int[] {PORT, -1, 9, MIN, MAX}) {
            for (int template = 0; template <= 1; template++) {
                int given = template;
                check.refuses("kind " + kind, Check.ARGUMENT, withParts(2, 2), c -> c.part(given, kind, 3, 0, 0, 0));
            }
        }
    }

    void localNetsClocksAndStatesThatMayBe() {
        for (int kind = NOT; kind <= REGISTER; kind++) {
            mayBe(with(fitting(kind, 3), 1, 0));
            mayBe(with(fitting(kind, 3), 1, LOCAL_NETS - 1));
            for (int place = 2; place <= 4; place++) {
                char use = USES[kind].charAt(place - 2);
                if (use != '-') {
                    mayBe(with(fitting(kind, 3), place, 0));
                    mayBe(with(fitting(kind, 3), place, limit(use, LOCAL_NETS) - 1));
                }
            }
        }
    }

    private void mayBe(int[] numbers) {
        for (int template = 0; template <= 1; template++) {
            int given = template;
            Circuit x = new Circuit();
            check.answers("part " + told(numbers), 1, () -> part(x, given, numbers));
            x.instance(template, 0, 1);
            check.answers("cells of an instance", 1, () -> x.count(1));
        }
    }

    void localNetsClocksAndStatesThatMayNotBe() {
        for (int kind = NOT; kind <= REGISTER; kind++) {
            for (int wrong : new int[] {-1, LOCAL_NETS, 39, MIN, MAX}) {
                mayNotBe(with(fitting(kind, 3), 1, wrong));
            }
            for (int place = 2; place <= 4; place++) {
                char use = USES[kind].charAt(place - 2);
                for (int wrong : use == '-' ? new int[0] : new int[] {-1, limit(use, LOCAL_NETS), MIN, MAX}) {
                    mayNotBe(with(fitting(kind, 3), place, wrong));
                }
            }
        }
    }

    private void mayNotBe(int[] numbers) {
        for (int template = 0; template <= 1; template++) {
            int given = template;
            Circuit x = withParts(2, 3);
            x.build();
            check.refuses("part " + told(numbers), Check.ARGUMENT, x, c -> part(c, given, numbers));
        }
    }

    /** The document says so at cell, and a part is a cell of a template. */
    void whatAKindHasNoUseForMayBeAnything() {
        for (int kind = NOT; kind <= REGISTER; kind++) {
            for (int place = 2; place <= 4; place++) {
                if (USES[kind].charAt(place - 2) == '-') {
                    for (int number : new int[] {MIN, -1, 0, 9, 10, MAX}) {
                        int[] numbers = with(fitting(kind, 0), place, number);
                        Circuit x = new Circuit();
                        check.answers("part " + told(numbers), 1, () -> part(x, 0, numbers));
                        int fresh = USES[kind].equals("n--") ? 1 : 2;
                        check.answers("it names no net", 40 + fresh, () -> x.instance(0, 0, 1));
                        check.answers("it builds", 1, x::build);
                    }
                }
            }
        }
    }

    void tenCellsInEachTemplate() {
        Circuit x = new Circuit();
        for (int template = 0; template <= 1; template++) {
            int given = template;
            for (int i = 1; i <= 10; i++) {
                check.answers("cell " + i, i, () -> x.part(given, TRI, 3, 5, 6, 0));
            }
        }
        for (int template = 0; template <= 1; template++) {
            int given = template;
            check.refuses("the 11th of " + template, Check.STATE, x, c -> c.part(given, TRI, 3, 5, 6, 0));
        }
    }

    void the11thOfEachKind() {
        for (int kind = NOT; kind <= REGISTER; kind++) {
            int[] numbers = fitting(kind, 4);
            check.refuses("kind " + kind, Check.STATE, withParts(10, 0), c -> part(c, 0, numbers));
            check.refuses("kind " + kind, Check.STATE, withParts(0, 10), c -> part(c, 1, numbers));
        }
    }

    void aFullTemplateDoesNotFillTheOther() {
        check.answers("the second", 1, () -> withParts(10, 0).part(1, NOT, 3, 5, 0, 0));
        check.answers("the second's 10th", 10, () -> withParts(10, 9).part(1, NOT, 3, 5, 0, 0));
        check.answers("the first", 1, () -> withParts(0, 10).part(0, NOT, 3, 5, 0, 0));
        check.answers("the first's 10th", 10, () -> withParts(9, 10).part(0, NOT, 3, 5, 0, 0));
    }

    void wrongNumbersComeBeforeTenCells() {
        for (int template = 0; template <= 1; template++) {
            int given = template;
            for (int kind = NOT; kind <= REGISTER; kind++) {
                for (int place = 1; place <= 4; place++) {
                    char use = place == 1 ? 'n' : USES[kind].charAt(place - 2);
                    for (int wrong : use == '-' ? new int[0] : new int[] {-1, limit(use, LOCAL_NETS)}) {
                        int[] numbers = with(fitting(kind, 3), place, wrong);
                        check.refuses(told(numbers), Check.ARGUMENT, withParts(10, 10), c -> part(c, given, numbers));
                    }
                }
            }
            for (int kind : new int[] {PORT, -1, 9}) {
                check.refuses("kind " + kind, Check.ARGUMENT, withParts(10, 10), c -> c.part(given, kind, 3, 5, 0, 0));
            }
        }
    }

    void aWrongTemplateComesBeforeTenCells() {
        for (int template : new int[] {-1, 2}) {
            check.refuses("template " + template, Check.ARGUMENT, withParts(10, 10), c -> c.part(template, TRI, 3, 5, 6, 0));
        }
    }

    void instancesDoNotEmptyATemplate() {
        Circuit x = withParts(10, 0);
        x.instance(0, 0, 1);
        check.refuses("the 11th after an instance", Check.STATE, x, c -> c.part(0, TRI, 3, 5, 6, 0));
        Circuit y = withParts(9, 0);
        y.instance(0, 0, 1);
        check.answers("the 10th after an instance", 10, () -> y.part(0, TRI, 3, 5, 6, 0));
    }

    void resetLeavesTemplates() {
        Circuit x = withParts(9, 10);
        x.reset();
        check.answers("the 10th", 10, () -> x.part(0, TRI, 3, 5, 6, 0));
        check.refuses("the 11th", Check.STATE, x, c -> c.part(1, TRI, 3, 5, 6, 0));
    }

    void aFullCircuitDoesNotFillTemplates() {
        Circuit cells = Scenes.cells(60);
        check.answers("with 60 cells", 1, () -> cells.part(0, NOT, 3, 5, 0, 0));
        Circuit nets = Scenes.nets(80);
        check.answers("with 80 nets", 3, () -> nets.part(0, NOT, 3, 5, 0, 0));
        check.refuses("local nets are ten all the same", Check.ARGUMENT, nets, c -> c.part(0, NOT, 10, 5, 0, 0));
    }

    void aPartMakesNothingInTheCircuit() {
        Circuit x = Scenes.ports(2);
        x.build();
        x.part(0, NOT, 0, 9, 0, 0);
        x.part(1, REGISTER, 9, 9, 0, 0);
        int[] due = {40, 2, 0, 1, 0, 2, 38, 1};
        for (int what = 0; what < due.length; what++) {
            int asked = what;
            check.answers("count " + what, due[what], () -> x.count(asked));
        }
    }

    void driversOfATemplateAreNoMatterYet() {
        Circuit x = new Circuit();
        check.answers("a NOT", 1, () -> x.part(0, NOT, 3, 5, 0, 0));
        check.answers("another on its net", 2, () -> x.part(0, NOT, 3, 5, 0, 0));
        check.answers("one that drives itself", 3, () -> x.part(0, NOT, 4, 4, 0, 0));
    }

    void madeInstancesDoNotChangeWithTheTemplate() {
        Circuit x = withParts(1, 0);
        x.instance(0, 0, 1);
        x.part(0, NOT, 4, 3, 0, 0);
        check.answers("nets", 43, () -> x.count(0));
        check.answers("cells", 1, () -> x.count(1));
    }
}
