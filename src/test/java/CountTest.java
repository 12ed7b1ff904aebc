/** Promise 8: count. */
public final class CountTest {
    private static final Checks checks = new Checks();

    public static void main(String[] args) {
        noneForAnotherWhat();
        followsARun();
        tellsWhyItLatched();
        stepsAreOfTheLatestCycle();
        checks.end();
    }

    private static void noneForAnotherWhat() {
        TwinGate gate = Checks.gate(9, 14, 0);
        for (int what : new int[] {Integer.MIN_VALUE, -1, 7, 8, Integer.MAX_VALUE}) {
            checks.due("count(" + what + ")", gate.count(what), -1);
        }
    }

    private static void dueCounts(String when, TwinGate gate, int... want) {
        for (int what = 0; what < want.length; what++) {
            checks.due(when + ": count(" + what + ")", gate.count(what), want[what]);
        }
    }

    private static void followsARun() {
        TwinGate gate = Checks.gate(9, 12, 0, 13, 0, 14, 0);
        dueCounts("ahead of all", gate, 3, 0, 0, 0, 0, 0, 9);
        gate.flip(0, 3, 3, 0);
        gate.flip(0, 3, 3, 5);
        gate.flip(0, 3, 3, 6);
        gate.flip(2, 3, 3, 6);
        dueCounts("three flips planned", gate, 3, 0, 0, 0, 3, 0, 9);
        gate.cycle();
        dueCounts("two of them done", gate, 3, 1, 0, 6, 0, 2, 9);
        gate.flip(0, 3, 3, 0);
        dueCounts("one more planned", gate, 3, 1, 0, 6, 1, 2, 9);
        gate.cycle();
        dueCounts("three done in all", gate, 3, 2, 0, 6, 0, 3, 9);
        gate.flip(0, Checks.A, 3, 1);
        gate.cycle();
        dueCounts("latched", gate, 3, 2, 3, 6, 0, 4, 9);
        gate.flip(0, 3, 3, 0);
        gate.cycle();
        dueCounts("still latched", gate, 3, 2, 3, 6, 0, 4, 9);
    }

    private static void tellsWhyItLatched() {
        TwinGate trap = Checks.gate(9, 3, 0);
        trap.cycle();
        dueCounts("a trap", trap, 1, 0, 1, 2, 0, 0, 9);
        TwinGate limit = Checks.gate(9, 10, 0);
        limit.cycle();
        dueCounts("the limit", limit, 1, 0, 2, 9, 0, 0, 9);
        TwinGate gate = Checks.gate(9, 13, 0, 14, 0);
        gate.flip(0, Checks.A, 40, 0);
        gate.cycle();
        dueCounts("the gate", gate, 2, 0, 3, 4, 0, 1, 9);
    }

    private static void stepsAreOfTheLatestCycle() {
        TwinGate gate = Checks.gate(9, 12, 0, 11, 4, 3, 0, 3, 0, 14, 0);
        checks.due("steps ahead of the first cycle", gate.count(3), 0);
        gate.cycle();
        checks.due("steps of a short cycle", gate.count(3), 6);
        gate.give(0, 1);
        gate.cycle();
        checks.due("steps of a long cycle", gate.count(3), 10);
        gate.give(0, 0);
        gate.cycle();
        checks.due("steps of a short cycle again", gate.count(3), 6);
    }
}
