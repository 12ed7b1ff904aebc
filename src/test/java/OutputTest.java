/** Promise 6: output. */
public final class OutputTest {
    private static final Checks checks = new Checks();

    public static void main(String[] args) {
        noneForOtherPorts();
        tellsWhatWasEmittedLast();
        mayShowNone();
        isZeroOnceLatched(Checks.gate(9, 0, 5, 13, 0, 13, 3, 12, 0, 11, 6, 15, 0, 14, 0), 16, 1);
        isZeroOnceLatched(Checks.gate(9, 0, 5, 13, 0, 13, 3, 12, 0, 11, 6, 10, 5, 14, 0), 16, 2);
        theGateItselfLatches();
        checks.end();
    }

    private static void dueNone(TwinGate gate) {
        for (int port : new int[] {Integer.MIN_VALUE, -1, 4, 5, Integer.MAX_VALUE}) {
            checks.due("output(" + port + ")", gate.output(port), -1);
        }
    }

    private static void noneForOtherPorts() {
        TwinGate gate = Checks.gate(9, 14, 0);
        dueNone(gate);
        gate.cycle();
        dueNone(gate);
        TwinGate latched = new TwinGate(9);
        latched.cycle();
        dueNone(latched);
    }

    private static void tellsWhatWasEmittedLast() {
        TwinGate gate = Checks.gate(20, 0, 1, 13, 0, 0, 2, 13, 1, 12, 2, 13, 2, 0, 9, 13, 3, 0, 4, 13, 3, 14, 0);
        dueOutputs(gate, 0, 0, 0, 0);
        gate.give(2, 3);
        dueOutputs(gate, 0, 0, 0, 0);
        gate.cycle();
        dueOutputs(gate, 1, 2, 3, 4);
        gate.give(2, Checks.BOUND);
        dueOutputs(gate, 1, 2, 3, 4);
        gate.cycle();
        dueOutputs(gate, 1, 2, Checks.BOUND, 4);
    }

    private static void dueOutputs(TwinGate gate, int... want) {
        for (int port = 0; port < want.length; port++) {
            checks.due("output(" + port + ")", gate.output(port), want[port]);
        }
    }

    private static void mayShowNone() {
        TwinGate gate = Checks.gate(20, 0, -1, 13, 2, 14, 0);
        gate.cycle();
        dueOutputs(gate, 0, 0, -1, 0);
    }

    /** The program puts 5 out, and latches in a cycle to which something but 0 is given. */
    private static void isZeroOnceLatched(TwinGate gate, int given, int why) {
        checks.due("cycle", gate.cycle(), 1);
        dueOutputs(gate, 5, 0, 0, 5);
        gate.give(0, given);
        checks.due("the cycle that latches", gate.cycle(), 0);
        checks.due("why", gate.count(2), why);
        dueOutputs(gate, 0, 0, 0, 0);
        gate.give(0, 0);
        gate.cycle();
        dueOutputs(gate, 0, 0, 0, 0);
    }

    private static void theGateItselfLatches() {
        TwinGate gate = Checks.gate(9, 0, 5, 13, 0, 13, 3, 14, 0);
        gate.cycle();
        gate.flip(1, Checks.A, 0, 5);
        gate.cycle();
        checks.due("why", gate.count(2), 3);
        dueOutputs(gate, 0, 0, 0, 0);
    }
}
