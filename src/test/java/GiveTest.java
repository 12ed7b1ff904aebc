/** Promise 3: give. */
public final class GiveTest {
    private static final Checks checks = new Checks();

    public static void main(String[] args) {
        looksAtPortAndNumber();
        isThereForBothCopies();
        staysUntilGivenAnew();
        whatIsRefusedChangesNothing();
        isTakenAlsoOnceLatched();
        checks.end();
    }

    private static void looksAtPortAndNumber() {
        TwinGate gate = new TwinGate(10);
        for (int port : new int[] {0, 1, 2, 3}) {
            for (int v : new int[] {-Checks.BOUND, -1, 0, 1, Checks.BOUND}) {
                checks.due("give(" + port + ", " + v + ")", gate.give(port, v), true);
            }
            for (int v : new int[] {-Checks.BOUND - 1, Checks.BOUND + 1, Integer.MIN_VALUE, Integer.MAX_VALUE}) {
                checks.due("give(" + port + ", " + v + ")", gate.give(port, v), false);
            }
        }
        for (int port : new int[] {-1, 4, Integer.MIN_VALUE, Integer.MAX_VALUE}) {
            checks.due("give(" + port + ", 0)", gate.give(port, 0), false);
        }
    }

    private static TwinGate echo() {
        return Checks.gate(50, 12, 0, 13, 0, 12, 1, 13, 1, 12, 2, 13, 2, 12, 3, 13, 3, 2, 5, 14, 0);
    }

    private static void isThereForBothCopies() {
        TwinGate gate = echo();
        int[] values = {Checks.BOUND, -Checks.BOUND, 0, -77};
        for (int port = 0; port < 4; port++) {
            gate.give(port, values[port]);
        }
        checks.due("cycle of given numbers", gate.cycle(), 1);
        for (int port = 0; port < 4; port++) {
            checks.due("output(" + port + ") of given numbers", gate.output(port), values[port]);
        }
        checks.due("first copy's taken number", gate.cell(0, 5), -77);
        checks.due("second copy's taken number", gate.cell(1, 5), -77 * Checks.FACTOR);
    }

    private static void staysUntilGivenAnew() {
        TwinGate gate = echo();
        gate.give(2, 8);
        gate.give(2, 9);
        gate.cycle();
        checks.due("the number given last", gate.output(2), 9);
        gate.cycle();
        checks.due("the same number a cycle later", gate.output(2), 9);
        gate.give(2, -4);
        checks.due("what is put out ahead of the cycle", gate.output(2), 9);
        gate.cycle();
        checks.due("the new number", gate.output(2), -4);
        checks.due("a port without", gate.output(1), 0);
    }

    private static void whatIsRefusedChangesNothing() {
        TwinGate gate = echo();
        gate.give(3, 12);
        gate.give(3, Checks.BOUND + 1);
        gate.give(4, 5);
        gate.give(-1, 5);
        gate.cycle();
        checks.due("port 3 behind refused numbers", gate.output(3), 12);
        checks.due("port 0 behind refused numbers", gate.output(0), 0);
    }

    private static void isTakenAlsoOnceLatched() {
        TwinGate gate = new TwinGate(10);
        gate.cycle();
        checks.due("give once latched", gate.give(0, 1), true);
        checks.due("wrong give once latched", gate.give(4, 1), false);
    }
}
