/** The terms at their bounds: nets with none, one and many drivers, FLOATING inputs, stuck nets, latches, turns. */
final class ValueBoundsTest extends Suite {
    public static void main(String[] args) throws ReflectiveOperationException {
        run(new ValueBoundsTest());
    }

    // Nets by their drivers.

    void aNetWithoutDriversFloats() {
        Circuit x = Scenes.nets(80);
        x.build();
        for (int net : new int[] {0, 38, 41, 79}) {
            check.answers("net " + net, 3, () -> x.value(net));
        }
    }

    void aNetWithOneDriverHasItsValue() {
        Circuit x = Scenes.ports(1);
        x.build();
        check.answers("a port, UNKNOWN at first", 2, () -> x.value(0));
        for (int value = 0; value <= 3; value++) {
            int given = value;
            check.answers("a port that is " + value, value, () -> x.set(0, given));
            check.answers("its net", value, () -> x.value(0));
        }
    }

    void aNetWithOneTriHasItsValue() {
        Circuit x = Scenes.ports(2);
        x.cell(TRI, 5, 0, 1, 0);
        x.build();
        x.set(0, 1);
        int[] due = {3, 1, 2, 2};
        for (int open = 0; open <= 3; open++) {
            x.set(1, open);
            check.answers("b is " + open, due[open], () -> x.value(5));
        }
    }

    /** Two drivers that are each 0, 1, UNKNOWN or FLOATING. */
    void aNetWithTwoDrivers() {
        String due = "0220" + "2121" + "2222" + "0123";
        for (int row = 0; row < 16; row++) {
            Circuit x = Scenes.ports(4);
            x.cell(TRI, 5, 0, 1, 0);
            x.cell(TRI, 5, 2, 3, 0);
            x.build();
            drive(x, 0, row / 4);
            drive(x, 2, row % 4);
            check.answers("drivers " + row / 4 + " and " + row % 4, due.charAt(row) - '0', () -> x.value(5));
        }
    }

    /** Makes the TRI of this port and the next one have the value. */
    private static void drive(Circuit x, int port, int value) {
        x.set(port, value);
        x.set(port + 1, value == 3 ? 0 : 1);
    }

    void aNetWith56Drivers() {
        Circuit x = Scenes.ports(4);
        x.cell(TRI, 5, 0, 1, 0);
        for (int i = 0; i < 54; i++) {
            x.cell(TRI, 5, 39, 38, 0);
        }
        x.cell(TRI, 5, 2, 3, 0);
        check.answers("60 cells", 60, () -> x.count(1));
        check.answers("they build", 2, x::build);
        check.answers("those in the middle are UNKNOWN", 2, () -> x.value(5));
        x.stick(38, 0);
        drive(x, 0, 3);
        drive(x, 2, 3);
        check.answers("all FLOATING", 3, () -> x.value(5));
        drive(x, 2, 1);
        check.answers("the last is 1", 1, () -> x.value(5));
        drive(x, 0, 0);
        check.answers("and the first 0", 2, () -> x.value(5));
        drive(x, 2, 3);
        check.answers("the first alone", 0, () -> x.value(5));
        x.stick(38, 1);
        x.stick(39, 0);
        check.answers("and all in the middle", 0, () -> x.value(5));
        x.stick(39, 1);
        check.answers("but not if they are 1", 2, () -> x.value(5));
    }

    // FLOATING as an input.

    void aNetThatFloatsIsUnknownAsAnInput() {
        for (int kind = NOT; kind <= LATCH; kind++) {
            Circuit x = new Circuit();
            x.cell(kind, 5, 6, 7, 8);
            x.build();
            check.answers("the input floats", 3, () -> x.value(6));
            check.answers("kind " + kind, 2, () -> x.value(5));
        }
    }

    void aTriThatIsOpenDoesNotLetFloatingThrough() {
        Circuit x = Scenes.ports(1);
        x.cell(TRI, 5, 9, 0, 0);
        x.build();
        x.set(0, 1);
        check.answers("UNKNOWN", 2, () -> x.value(5));
        x.set(0, 0);
        check.answers("closed, it floats", 3, () -> x.value(5));
    }

    void aMuxOrLatchDoesNotLetFloatingThrough() {
        Circuit x = Scenes.ports(1);
        x.cell(MUX, 5, 9, 9, 0);
        x.cell(LATCH, 6, 9, 0, 0);
        x.build();
        for (int value = 0; value <= 3; value++) {
            x.set(0, value);
            check.answers("the MUX", 2, () -> x.value(5));
            check.answers("the LATCH", 2, () -> x.value(6));
            check.answers("what it was", 2, () -> x.state(2));
        }
    }

    void aMuxThatDoesNotKnowWhichToTake() {
        String due = "022" + "212" + "222";
        for (int choice = 2; choice <= 3; choice++) {
            for (int row = 0; row < 9; row++) {
                Circuit x = Scenes.ports(3);
                x.cell(MUX, 5, 0, 1, 2);
                x.build();
                x.set(0, row / 3);
                x.set(1, row % 3);
                x.set(2, choice);
                check.answers(row / 3 + " or " + row % 3, due.charAt(row) - '0', () -> x.value(5));
            }
        }
    }

    // Latches.

    void aLatchWasUnknownAtFirst() {
        for (int a = 0; a <= 3; a++) {
            for (int open : new int[] {0, 2, 3}) {
                Circuit x = Scenes.ports(2);
                x.cell(LATCH, 5, 0, 1, 0);
                check.answers("before it is built", 2, () -> x.state(2));
                x.build();
                x.set(0, a);
                x.set(1, open);
                check.answers("a " + a + ", b " + open, 2, () -> x.value(5));
                check.answers("what it was", 2, () -> x.state(2));
            }
        }
    }

    void aLatchThatMayBeOpenKeepsOnlyTheSame() {
        for (int was = 0; was <= 1; was++) {
            Circuit x = Scenes.ports(2);
            x.cell(LATCH, 5, 0, 1, 0);
            x.build();
            x.set(0, was);
            x.set(1, 1);
            int kept = was;
            x.set(1, 2);
            check.answers("a is what it was", kept, () -> x.value(5));
            x.set(1, 0);
            x.set(0, 1 - was);
            check.answers("closed, it keeps", kept, () -> x.value(5));
            x.set(1, 3);
            check.answers("perhaps open to another", 2, () -> x.value(5));
            x.set(1, 0);
            check.answers("and so it was UNKNOWN", 2, () -> x.state(2));
        }
    }

    /** What a latch was is its value at the last settling, also if its input and its gate go at once. */
    void latchesInARowOpenAtOnce() {
        Circuit x = Scenes.ports(2);
        x.cell(LATCH, 6, 5, 1, 0);
        x.cell(LATCH, 5, 0, 1, 0);
        x.build();
        x.set(0, 1);
        x.set(1, 1);
        check.answers("the first", 1, () -> x.value(5));
        check.answers("the second in the same settling", 1, () -> x.value(6));
        x.set(1, 0);
        x.set(0, 0);
        check.answers("both keep", 1, () -> x.state(2));
        check.answers("both keep", 1, () -> x.state(3));
    }

    void aLatchKeepsOverBuildingAgain() {
        Circuit x = Scenes.ports(2);
        x.cell(LATCH, 5, 0, 1, 0);
        x.build();
        x.set(0, 1);
        x.set(1, 1);
        x.set(1, 0);
        x.set(0, 0);
        x.cell(PORT, 9, 0, 0, 0);
        check.answers("before building", 1, () -> x.state(2));
        x.build();
        check.answers("after it", 1, () -> x.state(2));
        check.answers("on its net", 1, () -> x.value(5));
    }

    void aLatchWasItsOwnValueThoughItsNetIsStuck() {
        for (int stuck = 0; stuck <= 2; stuck++) {
            Circuit x = Scenes.ports(2);
            x.cell(LATCH, 5, 0, 1, 0);
            x.build();
            x.stick(5, stuck);
            x.set(0, 1);
            x.set(1, 1);
            int given = stuck;
            check.answers("its net", given, () -> x.value(5));
            check.answers("what it was", 1, () -> x.state(2));
            x.set(1, 0);
            x.set(0, 0);
            x.stick(5, -1);
            check.answers("its net then", 1, () -> x.value(5));
        }
    }

    // Registers.

    void aRegisterHasEachFirstState() {
        for (int state = 0; state <= 2; state++) {
            int given = state;
            Circuit x = new Circuit();
            x.cell(REGISTER, 5, 6, 0, state);
            check.answers("before it is built", given, () -> x.state(0));
            check.answers("its net is not settled", 2, () -> x.value(5));
            x.build();
            check.answers("then its net has it", given, () -> x.value(5));
        }
    }

    // Stuck nets.

    void stuckNetsWithNoneOneAndTwoDrivers() {
        for (int value = 0; value <= 2; value++) {
            int given = value;
            Circuit x = Scenes.ports(4);
            x.cell(TRI, 5, 0, 1, 0);
            x.cell(TRI, 5, 2, 3, 0);
            x.build();
            for (int net : new int[] {30, 0, 5}) {
                x.stick(net, value);
                check.answers("net " + net + " at " + value, given, () -> x.value(net));
                x.stick(net, -1);
            }
            check.answers("no more, none", 3, () -> x.value(30));
            check.answers("no more, one", 2, () -> x.value(0));
            check.answers("no more, two", 2, () -> x.value(5));
        }
    }

    void stuckNetsAreReadAsStuck() {
        int[] due = {1, 0, 2};
        for (int value = 0; value <= 2; value++) {
            Circuit x = Scenes.ports(1);
            x.cell(NOT, 1, 0, 0, 0);
            x.cell(NOT, 2, 1, 0, 0);
            x.build();
            x.set(0, 1);
            x.stick(1, value);
            int given = value;
            check.answers("the net", given, () -> x.value(1));
            check.answers("behind it", due[given], () -> x.value(2));
            check.answers("before it", 1, () -> x.value(0));
        }
    }

    // Turns.

    /** From each value to each other one: only 0 to 1 and 1 to 0 are turns. */
    void eachStepOfAValue() {
        for (int from = 0; from <= 3; from++) {
            for (int to = 0; to <= 3; to++) {
                Circuit x = Scenes.ports(1);
                x.build();
                x.set(0, from);
                x.set(0, to);
                int due = from + to == 1 ? 1 : 0;
                check.answers(from + " to " + to, due, () -> x.flips(0));
                check.answers("in all", due, x::reset);
            }
        }
    }

    void overUnknownOrFloatingIsNoTurn() {
        for (int between = 2; between <= 3; between++) {
            Circuit x = Scenes.ports(1);
            x.build();
            x.set(0, 0);
            x.set(0, between);
            x.set(0, 1);
            check.answers("0, " + between + ", 1", 0, () -> x.flips(0));
        }
    }

    void theFirstSettlingHasNoTurns() {
        Circuit x = new Circuit();
        x.cell(REGISTER, 0, 9, 0, 0);
        x.cell(REGISTER, 1, 9, 0, 1);
        x.stick(2, 0);
        x.stick(3, 1);
        x.build();
        check.answers("none has turned", 0, x::reset);
    }

    void atMostOneTurnASettling() {
        Circuit x = Scenes.ports(1);
        x.cell(NOT, 1, 0, 0, 0);
        x.cell(XOR, 2, 0, 1, 0);
        x.build();
        x.set(0, 0);
        x.set(0, 1);
        check.answers("the port's net", 1, () -> x.flips(0));
        check.answers("the NOT's net", 1, () -> x.flips(1));
        check.answers("what stays 1 has not turned on the way", 0, () -> x.flips(2));
    }

    void turnsByEachCallThatSettles() {
        Circuit x = Scenes.ports(1);
        x.cell(REGISTER, 1, 0, 0, 0);
        x.build();
        x.set(0, 0);
        x.set(0, 1);
        check.answers("by set", 1, () -> x.flips(0));
        x.tick(0);
        check.answers("by tick", 1, () -> x.flips(1));
        x.stick(0, 0);
        check.answers("by stick", 2, () -> x.flips(0));
        x.cell(PORT, 2, 0, 0, 0);
        x.stick(0, -1);
        check.answers("not before it is built", 2, () -> x.flips(0));
        x.build();
        check.answers("by build", 3, () -> x.flips(0));
        check.answers("in all", 4, x::reset);
        check.answers("by reset there are none", 0, () -> x.flips(1));
    }
}
