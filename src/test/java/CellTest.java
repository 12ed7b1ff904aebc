/** Promise 7: cell. */
public final class CellTest {
    private static final String INDEX = "IndexOutOfBoundsException";
    private static final Checks checks = new Checks();

    public static void main(String[] args) {
        throwsWhereThereIsNone();
        tellsEachCopysCells();
        staysAsItIsOnceLatched();
        whatThrowsChangesNothing();
        checks.end();
    }

    private static void throwsWhereThereIsNone() {
        TwinGate gate = Checks.gate(9, 14, 0);
        int low = Integer.MIN_VALUE;
        int high = Integer.MAX_VALUE;
        for (int copy : new int[] {low, -1, 2, high}) {
            checks.due("cell(" + copy + ", 0)", Checks.cell(gate, copy, 0), INDEX);
        }
        for (int copy = 0; copy < 2; copy++) {
            for (int cell : new int[] {low, -1, 18, 19, high}) {
                checks.due("cell(" + copy + ", " + cell + ")", Checks.cell(gate, copy, cell), INDEX);
            }
            for (int cell = 0; cell < 18; cell++) {
                checks.due("cell(" + copy + ", " + cell + ")", Checks.cell(gate, copy, cell), "0");
            }
        }
        checks.due("cell(2, 18)", Checks.cell(gate, 2, 18), INDEX);
    }

    private static void tellsEachCopysCells() {
        TwinGate gate = new TwinGate(99);
        for (int cell = 0; cell < 16; cell++) {
            gate.add(0, 100 - 9 * cell);
            gate.add(2, cell);
        }
        gate.add(0, Checks.BOUND);
        gate.add(3, 0);
        gate.add(0, -Checks.BOUND);
        gate.add(14, 0);
        checks.due("cycle", gate.cycle(), 1);
        for (int copy = 0; copy < 2; copy++) {
            long factor = copy == 0 ? 1 : Checks.FACTOR;
            for (int cell = 0; cell < 16; cell++) {
                checks.due("cell(" + copy + ", " + cell + ")", gate.cell(copy, cell), (100 - 9 * cell) * factor);
            }
            checks.due("A of " + copy, gate.cell(copy, Checks.A), -Checks.BOUND * factor);
            checks.due("B of " + copy, gate.cell(copy, Checks.B), Checks.BOUND * factor);
        }
    }

    private static void staysAsItIsOnceLatched() {
        TwinGate gate = Checks.gate(9, 0, 6, 2, 3, 3, 0, 0, 16, 15, 0);
        checks.due("a cycle that latches", gate.cycle(), 0);
        checks.due("first copy's cell", gate.cell(0, 3), 6);
        checks.due("first copy's A", gate.cell(0, Checks.A), 16);
        checks.due("first copy's B", gate.cell(0, Checks.B), 6);
        checks.due("the second did not begin", gate.cell(1, 3), 0);
        TwinGate kept = Checks.gate(9, 12, 0, 3, 0, 2, 3, 11, 5, 10, 6, 14, 0);
        kept.flip(1, 3, 1, 9);
        checks.due("a cycle that is emitted", kept.cycle(), 1);
        checks.due("what was turned behind its writing", kept.cell(1, 3), 2);
        kept.give(0, 5);
        checks.due("a cycle that latches in the first copy", kept.cycle(), 0);
        checks.due("first copy's cell", kept.cell(0, 3), 5);
        checks.due("second copy's cell", kept.cell(1, 3), 2);
    }

    private static void whatThrowsChangesNothing() {
        TwinGate gate = Checks.gate(9, 0, 6, 2, 3, 14, 0);
        gate.cycle();
        String before = Checks.stateOf(gate);
        Checks.cell(gate, 2, 3);
        Checks.cell(gate, 0, 18);
        checks.due("state", Checks.stateOf(gate), before);
        checks.due("a cycle more", gate.cycle(), 1);
    }
}
