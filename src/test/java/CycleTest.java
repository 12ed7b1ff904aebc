/** Promise 4: cycle, with what every op does, the traps, the limit and the gate. */
public final class CycleTest {
    private static final long FACTOR = Checks.FACTOR;
    private static final int BOUND = Checks.BOUND;
    private static final Checks checks = new Checks();

    public static void main(String[] args) {
        opsReckonInBothCopies();
        opsTrapBeyondTheBound();
        productsTrap();
        flippedProductsTrap();
        lookUpsTrap();
        jumps();
        placesBehindTheLastTrap();
        limitIsEachCopysOwn();
        aTrapOrEndInTheLastStepGoesAhead();
        beginsAnewButForCells();
        gateLooksAtAllPorts();
        onceLatchedNothingMoves();
        checks.end();
    }

    /** A program that makes B y and A x, does the op, and puts A out at port 0. */
    private static TwinGate pair(int x, int y, int op) {
        return Checks.gate(50, 0, y, 3, 0, 0, x, op, 0, 13, 0, 14, 0);
    }

    private static void dueOp(int op, int x, int y, int want) {
        String name = "op " + op + " of " + x + ", " + y;
        TwinGate gate = pair(x, y, op);
        checks.due(name + ": cycle()", gate.cycle(), 1);
        checks.due(name + ": output(0)", gate.output(0), want);
        checks.due(name + ": first A", gate.cell(0, Checks.A), want);
        checks.due(name + ": second A", gate.cell(1, Checks.A), want * FACTOR);
        checks.due(name + ": first B", gate.cell(0, Checks.B), op == 3 ? x : y);
        checks.due(name + ": second B", gate.cell(1, Checks.B), (op == 3 ? x : y) * FACTOR);
    }

    private static void opsReckonInBothCopies() {
        dueOp(3, 4, 9, 4);
        dueOp(4, 4, 9, 13);
        dueOp(4, BOUND - 1, 1, BOUND);
        dueOp(4, 1 - BOUND, -1, -BOUND);
        dueOp(5, 4, 9, -5);
        dueOp(5, -BOUND, -BOUND, 0);
        dueOp(5, 0, BOUND, -BOUND);
        dueOp(6, -4, 9, -36);
        dueOp(6, 0, BOUND, 0);
        dueOp(6, -1, BOUND, -BOUND);
        dueOp(6, 50000, 40000, BOUND);
        dueOp(6, 50000, -40000, -BOUND);
        dueOp(7, 3, 4, 1);
        dueOp(7, 4, 4, 0);
        dueOp(7, 4, 3, 0);
        dueOp(7, -4, 3, 1);
        dueOp(8, 4, 4, 1);
        dueOp(8, 4, -4, 0);
        dueOp(9, 4, 0, -4);
        dueOp(9, -BOUND, 0, BOUND);
        dueOp(9, BOUND, 0, -BOUND);
    }

    private static void dueLatched(String name, TwinGate gate, int why, int steps) {
        checks.due(name + ": cycle()", gate.cycle(), 0);
        checks.due(name + ": count(2)", gate.count(2), why);
        checks.due(name + ": count(3)", gate.count(3), steps);
        checks.due(name + ": count(1)", gate.count(1), 0);
    }

    private static void opsTrapBeyondTheBound() {
        dueOpTraps(4, BOUND, 1, BOUND + 1L);
        dueOpTraps(4, -BOUND, -1, -BOUND - 1L);
        dueOpTraps(5, BOUND, -1, BOUND + 1L);
        dueOpTraps(5, -BOUND, BOUND, -2L * BOUND);
        dueOpTraps(6, 50000, 40001, 50000L * 40001L);
        dueOpTraps(6, -BOUND, BOUND, -1L * BOUND * BOUND);
        secondCopyTrapsBeyondItsOwnBound();
        lowestNumberHasNoNegative();
    }

    /** A has got what was reckoned when the trap is seen. */
    private static void dueOpTraps(int op, int x, int y, long behind) {
        String name = "op " + op + " of " + x + ", " + y;
        TwinGate gate = pair(x, y, op);
        dueLatched(name, gate, 1, 4);
        checks.due(name + ": first A", gate.cell(0, Checks.A), behind);
        checks.due(name + ": second A", gate.cell(1, Checks.A), 0);
    }

    private static void secondCopyTrapsBeyondItsOwnBound() {
        TwinGate gate = pair(BOUND - 1, 1, 4);
        gate.flip(1, Checks.A, 62, 9);
        dueLatched("second copy beyond its bound", gate, 1, 10);
        checks.due("second A", gate.cell(1, Checks.A), BOUND * FACTOR + (1L << 62));
        // The flip makes B one more where its lowest bit is 0, and one less where it is 1.
        TwinGate above = pair(BOUND - 2, 2, 4);
        above.flip(1, Checks.B, 0, 9);
        dueLatched("second copy one above its bound", above, 1, 10);
        checks.due("its A", above.cell(1, Checks.A), BOUND * FACTOR + 1);
        TwinGate inside = pair(BOUND - 1, 1, 4);
        inside.flip(1, Checks.B, 0, 9);
        dueLatched("second copy one inside its bound", inside, 3, 12);
        checks.due("its A", inside.cell(1, Checks.A), BOUND * FACTOR - 1);
        TwinGate below = pair(2 - BOUND, 2, 5);
        below.flip(1, Checks.B, 0, 9);
        dueLatched("second copy one below its bound", below, 1, 10);
        checks.due("its A", below.cell(1, Checks.A), -BOUND * FACTOR - 1);
    }

    private static void lowestNumberHasNoNegative() {
        TwinGate gate = Checks.gate(50, 9, 0, 14, 0);
        gate.flip(0, Checks.A, 63, 0);
        dueLatched("the negative of the lowest number", gate, 1, 1);
        checks.due("first A", gate.cell(0, Checks.A), Long.MIN_VALUE);
        TwinGate round = Checks.gate(50, 3, 0, 4, 0, 14, 0);
        round.flip(0, Checks.A, 63, 0);
        checks.due("a sum that goes round", round.cycle(), 1);
        checks.due("A behind it", round.cell(0, Checks.A), 0);
    }

    private static void productsTrap() {
        TwinGate gate = pair(3, 5, 6);
        gate.flip(1, Checks.A, 0, 9);
        checks.due("a multiple behind a flip: cycle()", gate.cycle(), 0);
        checks.due("(3 * 58659 ^ 1) * 5 * 58659 is a multiple", gate.count(2), 3);
        TwinGate none = pair(3, 5, 6);
        none.flip(1, Checks.A, 0, 9);
        none.flip(1, Checks.B, 0, 9);
        dueLatched("no multiple", none, 1, 10);
        checks.due("A stays", none.cell(1, Checks.A), (3 * FACTOR) ^ 1);
    }

    private static void flippedProductsTrap() {
        TwinGate first = pair(2, 1, 6);
        first.flip(0, Checks.B, 62, 3);
        dueLatched("2 * (2^62 + 1)", first, 1, 4);
        checks.due("A stays", first.cell(0, Checks.A), 2);
        TwinGate second = pair(0, 0, 6);
        second.flip(1, Checks.A, 32, 9);
        second.flip(1, Checks.B, 32, 9);
        dueLatched("2^64 goes round to 0 but is a trap", second, 1, 10);
        checks.due("A stays", second.cell(1, Checks.A), 1L << 32);
        dueLowestTimes("-1 * lowest", -1, Checks.B, 1, -1L);
        dueLowestTimes("lowest * -1", -1, Checks.A, 1, Long.MIN_VALUE);
        dueLowestTimes("1 * lowest fits and is beyond the bound", 1, Checks.B, 1, Long.MIN_VALUE);
    }

    /** One of A and B is number, the other one the lowest long. */
    private static void dueLowestTimes(String name, int number, int lowest, int why, long behind) {
        TwinGate gate = pair(lowest == Checks.A ? 0 : number, lowest == Checks.A ? number : 0, 6);
        gate.flip(0, lowest, 63, 3);
        dueLatched(name, gate, why, 4);
        checks.due(name + ": A", gate.cell(0, Checks.A), behind);
    }

    private static void lookUpsTrap() {
        for (int number : new int[] {0, 1, 15}) {
            TwinGate gate = Checks.gate(50, 0, 70, 2, number, 0, number, 15, 0, 13, 3, 14, 0);
            checks.due("look up " + number, gate.cycle(), 1);
            checks.due("what cell " + number + " holds", gate.output(3), 70);
            checks.due("second copy's", gate.cell(1, Checks.A), 70 * FACTOR);
        }
        for (int number : new int[] {-1, 16, 17, BOUND, -BOUND}) {
            TwinGate gate = Checks.gate(50, 0, number, 15, 0, 14, 0);
            dueLatched("look up " + number, gate, 1, 2);
            checks.due("A stays", gate.cell(0, Checks.A), number);
        }
        TwinGate wide = Checks.gate(50, 0, 1, 15, 0, 14, 0);
        wide.flip(0, Checks.A, 32, 1);
        dueLatched("look up 2^32 + 1", wide, 1, 2);
        TwinGate odd = Checks.gate(50, 0, 1, 15, 0, 14, 0);
        odd.flip(1, Checks.A, 0, 4);
        dueLatched("look up of no multiple", odd, 1, 5);
        checks.due("A stays", odd.cell(1, Checks.A), FACTOR ^ 1);
    }

    private static void jumps() {
        TwinGate go = Checks.gate(50, 10, 3, 0, 1, 13, 0, 0, 2, 13, 1, 14, 0);
        checks.due("go", go.cycle(), 1);
        checks.due("what was left out", go.output(0), 0);
        checks.due("what was done", go.output(1), 2);
        checks.due("steps of go", go.count(3), 8);
        for (int number : new int[] {-1, 0, 1}) {
            TwinGate zero = Checks.gate(50, 0, number, 11, 3, 13, 0, 0, 8, 13, 1, 14, 0);
            checks.due("go if 0", zero.cycle(), 1);
            checks.due("steps of go if 0 with " + number, zero.count(3), number == 0 ? 10 : 12);
            checks.due("what was left out with 0", zero.output(0), number);
        }
        // Counts what is given down to 0 in cell 0, and up in cell 1.
        TwinGate loop = Checks.gate(500, 12, 0, 2, 0, 11, 13, 0, 1, 3, 0, 1, 0, 5, 0, 2, 0,
            1, 1, 4, 0, 2, 1, 1, 0, 10, 2, 1, 1, 13, 0, 14, 0);
        loop.give(0, 7);
        checks.due("loop", loop.cycle(), 1);
        checks.due("rounds of the loop", loop.output(0), 7);
        checks.due("steps of the loop", loop.count(3), 2 * (2 + 7 * 11 + 1 + 3));
    }

    private static void placesBehindTheLastTrap() {
        dueLatched("no instructions", new TwinGate(10), 1, 1);
        dueLatched("past the last", Checks.gate(10, 3, 0, 3, 0), 1, 3);
        dueLatched("far behind", Checks.gate(10, 10, 99), 1, 2);
        dueLatched("just behind", Checks.gate(10, 11, 1), 1, 2);
        TwinGate second = Checks.gate(10, 11, 2, 10, 99, 14, 0);
        second.flip(1, Checks.A, 0, 2);
        dueLatched("second copy far behind", second, 1, 5);
    }

    private static void limitIsEachCopysOwn() {
        TwinGate enough = Checks.gate(3, 3, 0, 3, 0, 14, 0);
        checks.due("an end in the last step", enough.cycle(), 1);
        checks.due("its steps", enough.count(3), 6);
        dueLatched("an end one step too late", Checks.gate(2, 3, 0, 3, 0, 14, 0), 2, 2);
        dueLatched("round and round", Checks.gate(5000, 10, 0), 2, 5000);
        TwinGate second = Checks.gate(5, 11, 2, 10, 0, 14, 0);
        second.flip(1, Checks.A, 3, 2);
        dueLatched("second copy round and round", second, 2, 7);
        TwinGate one = Checks.gate(0, 14, 0);
        checks.due("an end at once", one.cycle(), 1);
        checks.due("its steps", one.count(3), 2);
    }

    private static void aTrapOrEndInTheLastStepGoesAhead() {
        dueLatched("a trap in the last step", Checks.gate(2, 0, 16, 15, 0), 1, 2);
        dueLatched("a place behind in the last step", Checks.gate(2, 3, 0), 1, 2);
        dueLatched("the limit just ahead of a trap", Checks.gate(1, 3, 0), 2, 1);
        dueLatched("the limit just ahead of a place behind", Checks.gate(1, 10, 99), 2, 1);
    }

    private static void beginsAnewButForCells() {
        // Puts out A and B as they are at the beginning, and a sum that stays in a cell.
        TwinGate gate = Checks.gate(50, 13, 0, 1, 4, 13, 1, 0, 5, 3, 0, 1, 4, 4, 0, 2, 4, 11, 14, 14, 0);
        for (int round = 0; round < 3; round++) {
            checks.due("cycle " + round, gate.cycle(), 1);
            checks.due("A at the beginning", gate.output(0), 0);
            checks.due("the cell at the beginning", gate.output(1), 5 * round);
            checks.due("B at the end", gate.cell(1, Checks.B), 5 * FACTOR);
            checks.due("cycles emitted", gate.count(1), round + 1);
        }
        TwinGate b = Checks.gate(50, 0, 1, 4, 0, 13, 0, 3, 0, 14, 0);
        b.cycle();
        b.cycle();
        checks.due("B at the beginning is 0", b.output(0), 1);
        TwinGate halted = Checks.gate(50, 12, 0, 11, 3, 10, 99, 0, 7, 3, 0, 14, 0);
        checks.due("a cycle that is emitted", halted.cycle(), 1);
        halted.give(0, 1);
        checks.due("a cycle whose first copy traps", halted.cycle(), 0);
        checks.due("A of the second, which did not begin", halted.cell(1, Checks.A), 7 * FACTOR);
        checks.due("B of the second, which did not begin", halted.cell(1, Checks.B), 7 * FACTOR);
        checks.due("B of the first, which began", halted.cell(0, Checks.B), 0);
        TwinGate ports = Checks.gate(50, 12, 0, 11, 3, 13, 2, 14, 0);
        ports.give(0, 6);
        ports.cycle();
        checks.due("what was put out", ports.output(2), 6);
        ports.give(0, 0);
        ports.cycle();
        checks.due("0 for a port without", ports.output(2), 0);
    }

    private static void gateLooksAtAllPorts() {
        for (int port = 0; port < 4; port++) {
            for (int copy = 0; copy < 2; copy++) {
                TwinGate gate = Checks.gate(50, 0, 5, 13, port, 14, 0);
                checks.due("ahead of the flip", gate.cycle(), 1);
                gate.flip(copy, Checks.A, 1, copy * 3 + 1);
                checks.due("port " + port + " of copy " + copy + " differs", gate.cycle(), 0);
                checks.due("why", gate.count(2), 3);
                checks.due("steps", gate.count(3), 6);
                checks.due("cycles emitted", gate.count(1), 1);
            }
        }
        TwinGate only = Checks.gate(50, 11, 3, 0, 4, 13, 0, 14, 0);
        only.flip(1, Checks.A, 0, 2);
        dueLatched("only the second put out", only, 3, 6);
        TwinGate cells = Checks.gate(50, 0, 5, 13, 0, 14, 0);
        cells.flip(0, 7, 1, 0);
        checks.due("a cell that differs is no matter of the gate", cells.cycle(), 1);
    }

    private static void onceLatchedNothingMoves() {
        TwinGate gate = Checks.gate(50, 12, 0, 13, 0, 3, 0, 1, 1, 4, 0, 2, 1, 11, 9, 14, 0);
        gate.give(0, 4);
        checks.due("cycle", gate.cycle(), 1);
        gate.give(0, -4);
        checks.due("a cycle that latches", gate.cycle(), 0);
        String before = Checks.stateOf(gate);
        gate.give(0, 4);
        checks.due("a cycle once latched", gate.cycle(), 0);
        checks.due("state once latched", Checks.stateOf(gate), before);
    }
}
