/** The edges of a FLIP: its numbers, the room for four, and the first and last STEP of a CYCLE. */
public final class FlipEdgesTest {
    private static final long FACTOR = Checks.FACTOR;
    private static final int HIGH = Integer.MAX_VALUE;
    private static final int LOW = Integer.MIN_VALUE;
    private static final Checks checks = new Checks();

    public static void main(String[] args) {
        numbersOnEitherSide();
        bitsAreTheBitsTheySay();
        roomForFour();
        whatIsRefusedTakesNoRoom();
        roomIsThereAgainBehindACycle();
        firstAndLastStepOfACycle();
        lastStepOfTheLongestCycle();
        firstAndLastStepOfEachCopy();
        stepsThatNeverCome();
        aFlipIsForTheNextCycleAlone();
        theSameBitTwice();
        flipsAheadOfOneStep();
        refusedOnceLatched();
        aLatchForgetsWhatIsPlanned();
        checks.end();
    }

    /** Four steps in each cycle, which use no cell. */
    private static TwinGate idle() {
        return Checks.gate(9, 0, 0, 14, 0);
    }

    private static void due(boolean want, int copy, int cell, int bit, int step) {
        TwinGate gate = idle();
        String call = "flip(" + copy + ", " + cell + ", " + bit + ", " + step + ")";
        checks.due(call, gate.flip(copy, cell, bit, step), want);
        checks.due("planned behind " + call, gate.count(4), want ? 1 : 0);
        checks.due("cycle behind " + call, gate.cycle(), 1);
        checks.due("done behind " + call, gate.count(5), want && step < 4 ? 1 : 0);
    }

    // "a copy (0, 1), a cell (A 16, B 17), a bit (0 .. 63), a STEP from 0 on: true; false if there is no such thing"
    private static void numbersOnEitherSide() {
        for (int copy : new int[] {0, 1}) {
            due(true, copy, 0, 0, 0);
            due(true, copy, 15, 0, 0);
            due(true, copy, 16, 0, 0);
            due(true, copy, 17, 0, 0);
            due(true, copy, 17, 63, 3);
            due(true, copy, 0, 63, HIGH);
            due(false, copy, 18, 0, 0);
            due(false, copy, -1, 0, 0);
            due(false, copy, 0, 64, 0);
            due(false, copy, 0, -1, 0);
            due(false, copy, 0, 0, -1);
            due(false, copy, LOW, 0, 0);
            due(false, copy, HIGH, 0, 0);
            due(false, copy, 0, LOW, 0);
            due(false, copy, 0, HIGH, 0);
            due(false, copy, 0, 0, LOW);
        }
        due(false, 2, 0, 0, 0);
        due(false, -1, 0, 0, 0);
        due(false, LOW, 0, 0, 0);
        due(false, HIGH, 0, 0, 0);
        due(false, 2, 18, 64, -1);
    }

    // "turns one bit of a cell, A or B": the lowest, the highest, and those of 32 bits' edge
    private static void bitsAreTheBitsTheySay() {
        long[] want = {1L, 0x40000000L, 0x80000000L, 0x100000000L, 0x4000000000000000L, Long.MIN_VALUE};
        int[] bits = {0, 30, 31, 32, 62, 63};
        for (int i = 0; i < bits.length; i++) {
            for (int cell : new int[] {0, 15, Checks.A, Checks.B}) {
                TwinGate gate = idle();
                gate.flip(1, cell, bits[i], 3);
                gate.cycle();
                checks.due("bit " + bits[i] + " of cell " + cell, gate.cell(1, cell), want[i]);
                checks.due("the first copy's", gate.cell(0, cell), 0);
            }
        }
        // From 1 to 0.
        TwinGate gate = Checks.gate(9, 0, -1, 14, 0);
        gate.flip(0, Checks.A, 63, 1);
        gate.cycle();
        checks.due("-1 without its highest bit", gate.cell(0, Checks.A), Long.MAX_VALUE);
    }

    // "or four are planned"
    private static void roomForFour() {
        TwinGate gate = idle();
        for (int i = 1; i <= 4; i++) {
            checks.due("flip " + i, gate.flip(0, i, i, 0), true);
            checks.due("planned", gate.count(4), i);
        }
        for (int i = 5; i <= 6; i++) {
            checks.due("flip " + i, gate.flip(0, i, i, 0), false);
            checks.due("planned", gate.count(4), 4);
        }
        gate.cycle();
        for (int i = 1; i <= 6; i++) {
            checks.due("cell " + i, gate.cell(0, i), i <= 4 ? 1L << i : 0);
        }
        checks.due("done", gate.count(5), 4);
    }

    private static void whatIsRefusedTakesNoRoom() {
        TwinGate gate = idle();
        for (int i = 0; i < 4; i++) {
            gate.flip(2, 0, 0, 0);
            gate.flip(0, 18, 0, 0);
            gate.flip(0, 0, 64, 0);
            gate.flip(0, 0, 0, -1);
            checks.due("flip " + i, gate.flip(1, i, 5, 1), true);
        }
        checks.due("a fifth", gate.flip(1, 4, 5, 1), false);
        gate.cycle();
        for (int i = 0; i < 5; i++) {
            checks.due("cell " + i, gate.cell(1, i), i < 4 ? 32 : 0);
            checks.due("the first copy's cell " + i, gate.cell(0, i), 0);
        }
    }

    private static void roomIsThereAgainBehindACycle() {
        TwinGate gate = idle();
        for (int round = 0; round < 5; round++) {
            // Two of them have a step, two have not: all four are gone behind the cycle.
            checks.due("flip 1", gate.flip(0, 0, round, 0), true);
            checks.due("flip 2", gate.flip(0, 1, round, 3), true);
            checks.due("flip 3", gate.flip(0, 2, round, 4), true);
            checks.due("flip 4", gate.flip(0, 3, round, HIGH), true);
            checks.due("flip 5", gate.flip(0, 4, round, 0), false);
            checks.due("planned", gate.count(4), 4);
            checks.due("done", gate.count(5), 2 * round);
            checks.due("cycle", gate.cycle(), 1);
            checks.due("planned behind it", gate.count(4), 0);
            checks.due("done behind it", gate.count(5), 2 * round + 2);
        }
        long[] want = {31, 31, 0, 0, 0};
        for (int cell = 0; cell < want.length; cell++) {
            checks.due("cell " + cell, gate.cell(0, cell), want[cell]);
        }
    }

    // "one that has no such STEP is forgotten with it"
    private static void firstAndLastStepOfACycle() {
        TwinGate gate = idle();
        checks.due("cycle", gate.cycle(), 1);
        int steps = gate.count(3);
        gate.flip(0, 0, 0, 0);
        gate.flip(0, 1, 0, steps - 1);
        gate.flip(0, 2, 0, steps);
        gate.flip(0, 3, 0, steps + 1);
        checks.due("cycle with flips", gate.cycle(), 1);
        checks.due("ahead of the first step", gate.cell(0, 0), 1);
        checks.due("ahead of the last step", gate.cell(0, 1), 1);
        checks.due("one behind the last step", gate.cell(0, 2), 0);
        checks.due("two behind the last step", gate.cell(0, 3), 0);
        checks.due("done", gate.count(5), 2);
        checks.due("a cycle more", gate.cycle(), 1);
        checks.due("still forgotten", gate.cell(0, 2), 0);
        checks.due("done", gate.count(5), 2);
    }

    private static void lastStepOfTheLongestCycle() {
        // 4 + 7 * 713 steps in the loop, and 5 ahead of it: 5000 in each copy.
        TwinGate gate = Checks.gate(5000, 3, 0, 3, 0, 3, 0, 3, 0, 3, 0,
            12, 0, 2, 0, 11, 13, 0, 1, 3, 0, 1, 0, 5, 0, 10, 6, 14, 0);
        gate.give(0, 713);
        gate.flip(0, 9, 0, 4999);
        gate.flip(1, 9, 1, 5000);
        gate.flip(1, 9, 2, 9999);
        gate.flip(1, 9, 3, 10000);
        checks.due("the longest cycle", gate.cycle(), 1);
        checks.due("steps", gate.count(3), 10000);
        checks.due("the first copy's cell", gate.cell(0, 9), 1);
        checks.due("the second copy's cell", gate.cell(1, 9), 6);
        checks.due("done", gate.count(5), 3);
    }

    // "just ahead of a STEP", "counted from 0 on through both"
    private static void firstAndLastStepOfEachCopy() {
        // Each copy stores its A in step 0, and ends in step 1 of its own.
        for (int step = 0; step < 4; step++) {
            for (int copy = 0; copy < 2; copy++) {
                TwinGate gate = Checks.gate(9, 2, 7, 14, 0);
                gate.flip(copy, Checks.A, 5, step);
                checks.due("cycle", gate.cycle(), 1);
                String name = "copy " + copy + " ahead of step " + step;
                checks.due(name + ": what it stored", gate.cell(copy, 7), step == 2 * copy ? 32 : 0);
                checks.due(name + ": its A", gate.cell(copy, Checks.A), copy == 1 && step < 2 ? 0 : 32);
                checks.due(name + ": the other's cell", gate.cell(1 - copy, 7), 0);
                checks.due(name + ": done", gate.count(5), 1);
            }
        }
    }

    private static void stepsThatNeverCome() {
        for (int step : new int[] {4, 5, 9, 10000, HIGH - 1, HIGH}) {
            TwinGate gate = idle();
            checks.due("flip ahead of step " + step, gate.flip(0, 3, 0, step), true);
            String before = cellsOf(gate);
            gate.cycle();
            checks.due("cells behind it", cellsOf(gate), before);
            checks.due("planned", gate.count(4), 0);
            checks.due("done", gate.count(5), 0);
        }
    }

    private static String cellsOf(TwinGate gate) {
        StringBuilder text = new StringBuilder();
        for (int cell = 0; cell < 18; cell++) {
            text.append(gate.cell(0, cell)).append(' ').append(gate.cell(1, cell)).append(' ');
        }
        return text.toString();
    }

    // "of the next CYCLE"
    private static void aFlipIsForTheNextCycleAlone() {
        TwinGate gate = idle();
        gate.flip(0, 3, 0, 2);
        checks.due("nothing is turned ahead of the cycle", gate.cell(0, 3), 0);
        checks.due("done ahead of the cycle", gate.count(5), 0);
        for (int i = 0; i < 3; i++) {
            gate.cycle();
            checks.due("turned once, cycle " + i, gate.cell(0, 3), 1);
            checks.due("done", gate.count(5), 1);
        }
        // A longer cycle does not bring a forgotten one back.
        TwinGate longer = Checks.gate(9, 12, 0, 11, 4, 3, 0, 3, 0, 14, 0);
        longer.flip(0, 3, 0, 7);
        checks.due("a cycle of 6 steps", longer.cycle(), 1);
        checks.due("steps", longer.count(3), 6);
        longer.give(0, 1);
        checks.due("a cycle of 10 steps", longer.cycle(), 1);
        checks.due("steps", longer.count(3), 10);
        checks.due("the cell", longer.cell(0, 3), 0);
    }

    private static void theSameBitTwice() {
        TwinGate gate = Checks.gate(9, 1, 3, 2, 4, 14, 0);
        gate.flip(0, 3, 9, 0);
        gate.flip(0, 3, 9, 2);
        gate.cycle();
        checks.due("seen in between", gate.cell(0, 4), 512);
        checks.due("turned back", gate.cell(0, 3), 0);
        checks.due("done", gate.count(5), 2);
    }

    // "Those ahead of one STEP are done as they were planned"
    private static void flipsAheadOfOneStep() {
        TwinGate gate = Checks.gate(9, 1, 3, 2, 4, 14, 0);
        gate.flip(0, 3, 9, 0);
        gate.flip(0, 3, 1, 0);
        gate.flip(0, 3, 9, 0);
        gate.flip(0, 3, 63, 0);
        gate.cycle();
        checks.due("all four at once", gate.cell(0, 4), Long.MIN_VALUE + 2);
        checks.due("done", gate.count(5), 4);
        // Planned backwards: each waits for its own step.
        TwinGate back = Checks.gate(9, 1, 3, 2, 4, 1, 3, 2, 5, 14, 0);
        back.flip(0, 3, 1, 2);
        back.flip(0, 3, 0, 0);
        back.cycle();
        checks.due("behind the first", back.cell(0, 4), 1);
        checks.due("behind both", back.cell(0, 5), 3);
    }

    // "it has LATCHED"
    private static void refusedOnceLatched() {
        TwinGate trap = new TwinGate(9);
        TwinGate limit = Checks.gate(9, 10, 0);
        TwinGate differs = Checks.gate(9, 13, 0, 14, 0);
        differs.flip(1, Checks.A, 0, 2);
        TwinGate[] gates = {trap, limit, differs};
        for (int i = 0; i < gates.length; i++) {
            checks.due("ahead of the latch", gates[i].flip(0, 9, 0, 0), true);
            checks.due("cycle", gates[i].cycle(), 0);
            checks.due("why", gates[i].count(2), i + 1);
            int done = gates[i].count(5);
            checks.due("once latched", gates[i].flip(0, 9, 0, 0), false);
            checks.due("a wrong one once latched", gates[i].flip(2, 9, 0, 0), false);
            gates[i].cycle();
            checks.due("planned", gates[i].count(4), 0);
            checks.due("done", gates[i].count(5), done);
            checks.due("the cell", gates[i].cell(0, 9), 1);
        }
    }

    private static void aLatchForgetsWhatIsPlanned() {
        // The trap is in step 2, and the limit of the other one ends with step 2.
        TwinGate[] gates = {Checks.gate(9, 0, 16, 3, 0, 15, 0), Checks.gate(3, 10, 0)};
        for (TwinGate gate : gates) {
            gate.flip(0, 3, 0, 2);
            gate.flip(1, 3, 0, 2);
            gate.flip(0, 4, 0, 3);
            gate.flip(1, 4, 0, 3);
            checks.due("cycle", gate.cycle(), 0);
            checks.due("steps", gate.count(3), 3);
            for (int copy = 0; copy < 2; copy++) {
                checks.due("ahead of the last step", gate.cell(copy, 3), 1);
                checks.due("behind the last step", gate.cell(copy, 4), 0);
            }
            checks.due("planned", gate.count(4), 0);
            checks.due("done", gate.count(5), 2);
        }
        // A trap that only a flip has made, in the very step that it is ahead of.
        TwinGate made = Checks.gate(9, 0, 15, 15, 0, 14, 0);
        made.flip(1, Checks.A, 0, 4);
        checks.due("15 * 58659 with its lowest bit turned", made.cycle(), 0);
        checks.due("why", made.count(2), 1);
        checks.due("A", made.cell(1, Checks.A), 15 * FACTOR ^ 1);
    }
}
