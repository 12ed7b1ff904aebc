/** The edges of THE GATE and of what is put out. */
public final class GateEdgesTest {
    private static final long FACTOR = Checks.FACTOR;
    private static final Checks checks = new Checks();

    public static void main(String[] args) {
        for (int port = 0; port < 4; port++) {
            theFirstCopysPortsAreOf32Bits(port);
            allBitsOfTheSecondCopysPortsCount(port);
            portsThatAgreeOnlyInPart(port);
        }
        aPortWithoutIs0();
        thePortGetsWhatWasPutLast();
        agreeingGoesRound();
        noneIsAlsoWhatAPortMayShow();
        whatWasEmittedLastStays();
        outputIs0AheadOfTheFirstCycle();
        checks.end();
    }

    /** Puts cell 0 of each copy out at the port. */
    private static Wide holding(int port, long first, long second) {
        return new Wide(50, 1, 0, 13, port).hold(0, 0, first).hold(1, 0, second);
    }

    private static void dueEmitted(int port, long first, long second) {
        String name = first + " and " + second + " at port " + port;
        Wide wide = holding(port, first, second);
        checks.due(name + ": cycle()", wide.run(), 1);
        checks.due(name + ": why", wide.gate.count(2), 0);
        for (int at = 0; at < 4; at++) {
            checks.due(name + ": output(" + at + ")", wide.gate.output(at), at == port ? first : 0);
        }
    }

    private static void dueLatched(int port, long first, long second) {
        String name = first + " and " + second + " at port " + port;
        Wide wide = holding(port, first, second);
        int ahead = wide.gate.count(1);
        checks.due(name + ": cycle()", wide.run(), 0);
        checks.due(name + ": why", wide.gate.count(2), 3);
        checks.due(name + ": steps", wide.gate.count(3), 2 * (2 + Wide.STEPS_BESIDE));
        checks.due(name + ": cycles emitted", wide.gate.count(1), ahead);
        for (int at = 0; at < 4; at++) {
            checks.due(name + ": output(" + at + ")", wide.gate.output(at), 0);
        }
    }

    // "and these of 32 bits, they are EMITTED. Else it LATCHES (3)"
    private static void theFirstCopysPortsAreOf32Bits(int port) {
        long most = Integer.MAX_VALUE;
        long least = Integer.MIN_VALUE;
        for (long value : new long[] {0, 1, -1, most - 1, most, least + 1, least}) {
            dueEmitted(port, value, value * FACTOR);
        }
        for (long value : new long[] {most + 1, most + 2, least - 1, 1L << 32, (1L << 32) + 5, -(1L << 32)}) {
            dueLatched(port, value, value * FACTOR);
        }
    }

    // "are all four ports of the second copy 58659 times those of the first"
    private static void allBitsOfTheSecondCopysPortsCount(int port) {
        for (int bit = 0; bit < 64; bit++) {
            dueLatched(port, 3, 3 * FACTOR ^ 1L << bit);
        }
        dueLatched(port, 0, 1);
        dueLatched(port, 1, 0);
        dueLatched(port, 1, 1);
        dueLatched(port, 1, -FACTOR);
        dueLatched(port, -1, FACTOR);
    }

    /** The second copy's port fits the low half of the first one's, or the other way round. */
    private static void portsThatAgreeOnlyInPart(int port) {
        dueLatched(port, (1L << 32) + 3, 3 * FACTOR);
        dueLatched(port, 3, ((1L << 32) + 3) * FACTOR);
        dueLatched(port, 3, 3 * FACTOR + (1L << 32));
        dueLatched(port, Long.MIN_VALUE, 0);
        dueLatched(port, 0, Long.MIN_VALUE);
    }

    // "what a copy put out in a CYCLE is 0 for a port without"
    private static void aPortWithoutIs0() {
        // Goes past the putting where nothing is given.
        TwinGate gate = Checks.gate(9, 12, 0, 11, 6, 13, 0, 13, 1, 13, 2, 13, 3, 14, 0);
        gate.give(0, 6);
        checks.due("all ports", gate.cycle(), 1);
        dueOutputs("all ports", gate, 6, 6, 6, 6);
        gate.give(0, 0);
        checks.due("no port", gate.cycle(), 1);
        dueOutputs("no port", gate, 0, 0, 0, 0);
        for (int copy = 0; copy < 2; copy++) {
            whatWasPutInTheCycleBeforeIsGone(copy);
        }
    }

    /** The copy goes past its putting, and what it put out a cycle ago would agree with the other's. */
    private static void whatWasPutInTheCycleBeforeIsGone(int copy) {
        TwinGate gate = Checks.gate(9, 12, 0, 7, 0, 11, 5, 12, 0, 13, 0, 14, 0);
        gate.give(0, -6);
        checks.due("both copies", gate.cycle(), 1);
        dueOutputs("both copies", gate, -6, 0, 0, 0);
        gate.flip(copy, Checks.A, 63, copy * 6 + 1);
        checks.due("one of them without", gate.cycle(), 0);
        checks.due("why", gate.count(2), 3);
        checks.due("steps", gate.count(3), 10);
    }

    private static void dueOutputs(String name, TwinGate gate, int... want) {
        for (int port = 0; port < want.length; port++) {
            checks.due(name + ": output(" + port + ")", gate.output(port), want[port]);
        }
    }

    private static void thePortGetsWhatWasPutLast() {
        TwinGate gate = Checks.gate(20, 0, 5, 13, 0, 13, 1, 0, 0, 13, 1, 0, 7, 13, 0, 14, 0);
        checks.due("two puts", gate.cycle(), 1);
        dueOutputs("two puts", gate, 7, 0, 0, 0);
        // What differed and was put over is no matter of the gate.
        TwinGate healed = Checks.gate(20, 0, 5, 13, 0, 0, 7, 13, 0, 14, 0);
        healed.flip(0, Checks.A, 40, 1);
        checks.due("put over", healed.cycle(), 1);
        dueOutputs("put over", healed, 7, 0, 0, 0);
    }

    // "(64 bits that go round)": with a factor that is odd the highest bit alone agrees with itself
    private static void agreeingGoesRound() {
        long[] wide = {Long.MIN_VALUE, Long.MAX_VALUE, 1L << 48};
        for (long value : wide) {
            // Both agree, but 64 bits are not of 32.
            dueLatched(0, value, value * FACTOR);
        }
    }

    // "NONE if there is no such port (also what a port may show)"
    private static void noneIsAlsoWhatAPortMayShow() {
        TwinGate gate = Checks.gate(9, 0, -1, 13, 0, 13, 3, 14, 0);
        dueOutputs("ahead", gate, 0, 0, 0, 0);
        gate.cycle();
        dueOutputs("behind", gate, -1, 0, 0, -1);
        for (int port : new int[] {Integer.MIN_VALUE, -2, -1, 4, 5, Integer.MAX_VALUE}) {
            checks.due("output(" + port + ")", gate.output(port), TwinGate.NONE);
        }
    }

    // "what was EMITTED last"
    private static void whatWasEmittedLastStays() {
        TwinGate gate = Checks.gate(9, 12, 0, 13, 0, 12, 3, 13, 3, 14, 0);
        gate.give(0, Checks.BOUND);
        gate.give(3, -Checks.BOUND);
        gate.cycle();
        gate.give(0, 1);
        gate.give(3, 2);
        gate.flip(0, 1, 1, 1);
        dueOutputs("ahead of the next cycle", gate, Checks.BOUND, 0, 0, -Checks.BOUND);
        gate.cycle();
        dueOutputs("behind it", gate, 1, 0, 0, 2);
    }

    // "0 ahead of that and once it has LATCHED"
    private static void outputIs0AheadOfTheFirstCycle() {
        TwinGate gate = Checks.gate(9, 0, 4, 13, 0, 13, 1, 13, 2, 13, 3, 14, 0);
        dueOutputs("ahead of the first", gate, 0, 0, 0, 0);
        gate.cycle();
        dueOutputs("behind the first", gate, 4, 4, 4, 4);
        gate.flip(1, Checks.A, 3, 10);
        checks.due("a port that differs", gate.cycle(), 0);
        dueOutputs("once latched", gate, 0, 0, 0, 0);
        // Latched in the very first one.
        TwinGate first = Checks.gate(9, 0, 4, 13, 0, 10, 99);
        first.cycle();
        dueOutputs("latched in the first", first, 0, 0, 0, 0);
    }
}
