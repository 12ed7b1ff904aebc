/** Promise 5: flip. */
public final class FlipTest {
    private static final long FACTOR = Checks.FACTOR;
    private static final Checks checks = new Checks();

    public static void main(String[] args) {
        looksAtItsNumbers();
        takesFourAtOnce();
        turnsEveryBitOfEveryCell();
        isDoneJustAheadOfItsStep();
        countsStepsThroughBothCopies();
        beginningComesAheadOfTheFlip();
        twoAheadOfOneStep();
        isForgottenWithItsCycle();
        aLatchForgetsTheRest();
        isRefusedOnceLatched();
        checks.end();
    }

    private static TwinGate idle() {
        return Checks.gate(50, 3, 0, 14, 0);
    }

    private static void dueFlip(int copy, int cell, int bit, int step, boolean want) {
        TwinGate gate = idle();
        String call = "flip(" + copy + ", " + cell + ", " + bit + ", " + step + ")";
        checks.due(call, gate.flip(copy, cell, bit, step), want);
        checks.due("count(4) behind " + call, gate.count(4), want ? 1 : 0);
    }

    private static void looksAtItsNumbers() {
        int low = Integer.MIN_VALUE;
        int high = Integer.MAX_VALUE;
        for (int copy : new int[] {low, -1, 0, 1, 2, high}) {
            dueFlip(copy, 0, 0, 0, copy == 0 || copy == 1);
        }
        for (int cell : new int[] {low, -1, 0, 15, 16, 17, 18, high}) {
            dueFlip(0, cell, 0, 0, cell >= 0 && cell <= 17);
            dueFlip(1, cell, 0, 0, cell >= 0 && cell <= 17);
        }
        for (int bit : new int[] {low, -1, 0, 31, 32, 63, 64, high}) {
            dueFlip(1, 3, bit, 0, bit >= 0 && bit <= 63);
        }
        for (int step : new int[] {low, -1, 0, 1, 5000, 10000, high}) {
            dueFlip(1, 3, 7, step, step >= 0);
        }
    }

    private static void takesFourAtOnce() {
        TwinGate gate = idle();
        for (int i = 0; i < 4; i++) {
            checks.due("flip " + i, gate.flip(0, i, 0, 0), true);
        }
        checks.due("a fifth flip", gate.flip(0, 4, 0, 0), false);
        checks.due("count(4)", gate.count(4), 4);
        checks.due("cycle", gate.cycle(), 1);
        checks.due("count(4) behind", gate.count(4), 0);
        checks.due("count(5) behind", gate.count(5), 4);
        for (int i = 0; i < 6; i++) {
            checks.due("cell " + i, gate.cell(0, i), i < 4 ? 1 : 0);
        }
        checks.due("a flip behind", gate.flip(0, 4, 0, 0), true);
    }

    private static void turnsEveryBitOfEveryCell() {
        for (int copy = 0; copy < 2; copy++) {
            for (int cell = 0; cell < 18; cell++) {
                for (int bit = 0; bit < 64; bit++) {
                    dueTurned(copy, cell, bit);
                }
            }
        }
    }

    private static void dueTurned(int copy, int cell, int bit) {
        TwinGate gate = Checks.gate(50, 14, 0);
        gate.flip(copy, cell, bit, 1);
        checks.due("cycle", gate.cycle(), 1);
        for (int c = 0; c < 2; c++) {
            for (int at = 0; at < 18; at++) {
                long want = c == copy && at == cell ? 1L << bit : 0;
                checks.due("flip(" + copy + ", " + cell + ", " + bit + ", 1): cell(" + c + ", " + at + ")",
                    gate.cell(c, at), want);
            }
        }
    }

    private static void isDoneJustAheadOfItsStep() {
        // Cell 5 is loaded in step 1: a flip ahead of it is seen, one ahead of step 2 is not.
        for (int step = 0; step < 4; step++) {
            TwinGate gate = Checks.gate(50, 3, 0, 1, 5, 2, 6, 14, 0);
            gate.flip(0, 5, 2, step);
            checks.due("cycle", gate.cycle(), 1);
            checks.due("seen ahead of step " + step, gate.cell(0, 6), step <= 1 ? 4 : 0);
            checks.due("the cell itself", gate.cell(0, 5), 4);
        }
        // Cell 5 is written in step 1: a flip ahead of it is lost, but done.
        for (int step = 0; step < 4; step++) {
            TwinGate gate = Checks.gate(50, 0, 8, 2, 5, 3, 0, 14, 0);
            gate.flip(0, 5, 0, step);
            checks.due("cycle", gate.cycle(), 1);
            checks.due("left of a flip ahead of step " + step, gate.cell(0, 5), step <= 1 ? 8 : 9);
            checks.due("done", gate.count(5), 1);
        }
    }

    private static void countsStepsThroughBothCopies() {
        for (int step = 0; step < 8; step++) {
            TwinGate gate = Checks.gate(50, 3, 0, 1, 5, 2, 6, 14, 0);
            gate.flip(1, 5, 2, step);
            checks.due("cycle", gate.cycle(), 1);
            checks.due("seen by the second ahead of step " + step, gate.cell(1, 6), step <= 5 ? 4 : 0);
        }
        TwinGate late = Checks.gate(50, 3, 0, 1, 5, 2, 6, 14, 0);
        late.flip(0, 5, 2, 7);
        late.flip(0, Checks.A, 63, 7);
        checks.due("cycle", late.cycle(), 1);
        checks.due("first copy's cell, turned in the last step of the second", late.cell(0, 5), 4);
        checks.due("first copy's A", late.cell(0, Checks.A), Long.MIN_VALUE);
    }

    private static void beginningComesAheadOfTheFlip() {
        TwinGate first = Checks.gate(50, 2, 0, 14, 0);
        first.flip(0, Checks.A, 4, 0);
        first.cycle();
        checks.due("first A turned ahead of its first step", first.cell(0, 0), 16);
        TwinGate second = Checks.gate(50, 2, 0, 14, 0);
        second.flip(1, Checks.A, 4, 2);
        second.cycle();
        checks.due("second A turned ahead of its first step", second.cell(1, 0), 16);
        TwinGate early = Checks.gate(50, 2, 0, 14, 0);
        early.flip(1, Checks.A, 4, 1);
        early.flip(1, Checks.B, 4, 1);
        early.cycle();
        checks.due("second A turned ahead of its beginning", early.cell(1, 0), 0);
        checks.due("second B turned ahead of its beginning", early.cell(1, Checks.B), 0);
        checks.due("done all the same", early.count(5), 2);
        TwinGate trapped = Checks.gate(50, 3, 0);
        trapped.flip(1, Checks.A, 4, 1);
        trapped.cycle();
        checks.due("second A, which never began", trapped.cell(1, Checks.A), 16);
    }

    private static void twoAheadOfOneStep() {
        TwinGate gate = idle();
        gate.flip(0, 3, 5, 1);
        gate.flip(0, 3, 5, 1);
        gate.flip(1, 3, 5, 1);
        gate.flip(1, 3, 6, 1);
        gate.cycle();
        checks.due("one bit twice", gate.cell(0, 3), 0);
        checks.due("two bits", gate.cell(1, 3), 96);
        checks.due("done", gate.count(5), 4);
    }

    private static void isForgottenWithItsCycle() {
        TwinGate gate = idle();
        gate.flip(0, 3, 0, 4);
        gate.flip(0, 4, 0, Integer.MAX_VALUE);
        gate.flip(0, 5, 0, 3);
        checks.due("cycle of 4 steps", gate.cycle(), 1);
        checks.due("a flip ahead of step 4", gate.cell(0, 3), 0);
        checks.due("a flip ahead of step 3", gate.cell(0, 5), 1);
        checks.due("planned", gate.count(4), 0);
        checks.due("done", gate.count(5), 1);
        checks.due("a cycle more", gate.cycle(), 1);
        checks.due("forgotten", gate.cell(0, 3), 0);
        checks.due("not done again", gate.cell(0, 5), 1);
        checks.due("done", gate.count(5), 1);
    }

    private static void aLatchForgetsTheRest() {
        TwinGate trap = Checks.gate(50, 3, 0);
        trap.flip(0, 1, 0, 1);
        trap.flip(0, 2, 0, 2);
        checks.due("a trap in step 1", trap.cycle(), 0);
        checks.due("ahead of the trap", trap.cell(0, 1), 1);
        checks.due("behind the trap", trap.cell(0, 2), 0);
        checks.due("planned", trap.count(4), 0);
        checks.due("done", trap.count(5), 1);
        TwinGate limit = Checks.gate(3, 10, 0);
        limit.flip(1, 1, 0, 2);
        limit.flip(1, 2, 0, 3);
        checks.due("the limit at step 3", limit.cycle(), 0);
        checks.due("ahead of the last step", limit.cell(1, 1), 1);
        checks.due("ahead of none", limit.cell(1, 2), 0);
        checks.due("done", limit.count(5), 1);
    }

    private static void isRefusedOnceLatched() {
        TwinGate gate = new TwinGate(5);
        checks.due("a flip ahead of the latch", gate.flip(1, 9, 9, 0), true);
        gate.cycle();
        checks.due("done ahead of a place behind the last", gate.cell(1, 9), 512);
        checks.due("a flip once latched", gate.flip(0, 0, 0, 0), false);
        checks.due("planned once latched", gate.count(4), 0);
        TwinGate healed = Checks.gate(50, 0, 2, 13, 0, 14, 0);
        healed.flip(0, Checks.A, 2, 1);
        healed.flip(1, Checks.A, 2, 4);
        checks.due("flips that do not agree", healed.cycle(), 0);
        checks.due("second A", healed.cell(1, Checks.A), (2 * FACTOR) ^ 4);
    }
}
