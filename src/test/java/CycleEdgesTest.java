import java.util.Arrays;

/** The edges of a CYCLE: its PROGRAM's size, places, STEPS, the LIMIT and what a new one begins with. */
public final class CycleEdgesTest {
    private static final long FACTOR = Checks.FACTOR;
    private static final int MOST_LIMIT = 5000;
    private static final Checks checks = new Checks();

    public static void main(String[] args) {
        noInstructionsAtAll();
        oneInstruction();
        oneHundredInstructions();
        placesAtTheLastInstruction();
        theLimitIsTheLastStepThatMayEnd();
        theLeastLimit();
        theMostLimit();
        theLimitOfTheSecondCopy();
        whatTheLastStepOfTheLimitDoes();
        anEndIsAStep();
        theSecondCopyRunsAlsoIfNothingIsPutOut();
        aTrapLatchesAtOnce();
        eachCycleBeginsAtPlace0();
        aLatchStaysForGood();
        aFullLifeOfCalls();
        checks.end();
    }

    private static void dueEmitted(String name, TwinGate gate, int steps) {
        checks.due(name + ": cycle()", gate.cycle(), 1);
        checks.due(name + ": why", gate.count(2), 0);
        checks.due(name + ": steps", gate.count(3), steps);
    }

    private static void dueLatched(String name, TwinGate gate, int why, int steps) {
        checks.due(name + ": cycle()", gate.cycle(), 0);
        checks.due(name + ": why", gate.count(2), why);
        checks.due(name + ": steps", gate.count(3), steps);
    }

    /** As many ops that do nothing as asked for, then what else there is. */
    private static TwinGate padded(int limit, int padding, int... pairs) {
        TwinGate gate = new TwinGate(limit);
        for (int i = 0; i < padding; i++) {
            gate.add(3, 0);
        }
        for (int i = 0; i + 1 < pairs.length; i += 2) {
            gate.add(pairs[i], pairs[i + 1]);
        }
        return gate;
    }

    // "a place behind the last INSTRUCTION": place 0 is behind the last one where there is none
    private static void noInstructionsAtAll() {
        dueLatched("nothing, limit 1", new TwinGate(1), 1, 1);
        dueLatched("nothing, limit 5000", new TwinGate(MOST_LIMIT), 1, 1);
        TwinGate begun = new TwinGate(9);
        begun.cycle();
        checks.due("a cycle of nothing was begun", Checks.add(begun, 14, 0), "IllegalStateException");
    }

    private static void oneInstruction() {
        dueEmitted("an end alone", Checks.gate(1, 14, 0), 2);
        dueLatched("no end behind it", Checks.gate(9, 3, 0), 1, 2);
        dueLatched("to itself", Checks.gate(9, 10, 0), 2, 9);
    }

    // "A PROGRAM has up to 100 INSTRUCTIONS, numbered from 0 on"
    private static void oneHundredInstructions() {
        dueEmitted("an end at place 99", padded(100, 99, 14, 0), 200);
        dueEmitted("an end at place 98", padded(100, 98, 14, 0), 198);
        dueLatched("none at place 99", padded(200, 100), 1, 101);
        dueLatched("none at place 98", padded(200, 99), 1, 100);
        TwinGate last = padded(100, 97, 0, 44, 13, 2, 14, 0);
        dueEmitted("work at the last places", last, 200);
        checks.due("what it puts out", last.output(2), 44);
    }

    private static void placesAtTheLastInstruction() {
        for (int op = 10; op <= 11; op++) {
            for (int size = 2; size <= 100; size += 14) {
                dueEmitted("op " + op + " to the last of " + size, jumping(op, size, size - 1), 4);
                if (size < 100) {
                    dueLatched("op " + op + " just behind " + size, jumping(op, size, size), 1, 2);
                    dueLatched("op " + op + " to 99 of " + size, jumping(op, size, 99), 1, 2);
                }
            }
        }
        // Back to place 0: the end is reached only in the second round.
        dueEmitted("to place 0", Checks.gate(9, 1, 4, 11, 3, 14, 0, 0, 1, 2, 4, 10, 0), 2 * 8);
    }

    /** A jump ahead, ops that trap if they are reached, and an end as the last one. */
    private static TwinGate jumping(int op, int size, int place) {
        TwinGate gate = new TwinGate(9);
        gate.add(op, place);
        while (gate.count(0) < size - 1) {
            gate.add(10, 99);
        }
        gate.add(14, 0);
        return gate;
    }

    // "has done LIMIT STEPS without an end (2)"
    private static void theLimitIsTheLastStepThatMayEnd() {
        for (int steps : new int[] {2, 3, 50, 99, 100}) {
            dueEmitted(steps + " steps of " + steps, padded(steps, steps - 1, 14, 0), 2 * steps);
            dueEmitted(steps + " steps of one more", padded(steps + 1, steps - 1, 14, 0), 2 * steps);
            dueLatched(steps + " steps of one less", padded(steps - 1, steps - 1, 14, 0), 2, steps - 1);
        }
    }

    // "LIMIT is 1 .. 5000 (a number outside: the nearest one)"
    private static void theLeastLimit() {
        for (int limit : new int[] {Integer.MIN_VALUE, -1, 0, 1}) {
            dueEmitted("limit " + limit, Checks.gate(limit, 14, 0), 2);
            dueLatched("limit " + limit, Checks.gate(limit, 3, 0, 14, 0), 2, 1);
        }
        dueEmitted("limit 2", Checks.gate(2, 3, 0, 14, 0), 4);
    }

    /** Each copy does 4 steps, 7 for each round, and the padding. */
    private static TwinGate counting(int limit, int rounds, int padding) {
        int p = padding;
        TwinGate gate = padded(limit, padding, 12, 0, 2, 0, 11, p + 8, 0, 1, 3, 0, 1, 0, 5, 0, 10, p + 1, 14, 0);
        gate.give(0, rounds);
        return gate;
    }

    private static void theMostLimit() {
        int rounds = (MOST_LIMIT - 4) / 7;
        int padding = MOST_LIMIT - 4 - 7 * rounds;
        for (int limit : new int[] {MOST_LIMIT, MOST_LIMIT + 1, Integer.MAX_VALUE}) {
            dueEmitted("5000 steps of " + limit, counting(limit, rounds, padding), 2 * MOST_LIMIT);
            dueLatched("5001 steps of " + limit, counting(limit, rounds, padding + 1), 2, MOST_LIMIT);
        }
        dueEmitted("4999 steps of 4999", counting(MOST_LIMIT - 1, rounds, padding - 1), 2 * MOST_LIMIT - 2);
        dueLatched("5000 steps of 4999", counting(MOST_LIMIT - 1, rounds, padding), 2, MOST_LIMIT - 1);
    }

    /** The first copy ends in its second step, the second one, with a flipped A, in its fourth. */
    private static TwinGate longerSecond(int limit) {
        TwinGate gate = Checks.gate(limit, 11, 3, 3, 0, 3, 0, 14, 0);
        gate.flip(1, Checks.A, 0, 2);
        return gate;
    }

    private static void theLimitOfTheSecondCopy() {
        dueEmitted("4 steps of 4", longerSecond(4), 6);
        dueLatched("4 steps of 3", longerSecond(3), 2, 5);
        dueLatched("4 steps of 2", longerSecond(2), 2, 4);
    }

    /** What a step does is done, though the limit is reached with it. */
    private static void whatTheLastStepOfTheLimitDoes() {
        TwinGate gate = Checks.gate(2, 0, 6, 2, 9, 14, 0);
        dueLatched("a cell written in the last step", gate, 2, 2);
        checks.due("that cell", gate.cell(0, 9), 6);
        checks.due("the second copy's, which did not begin", gate.cell(1, 9), 0);
        dueLatched("a trap in the last step", Checks.gate(2, 0, 16, 15, 0), 1, 2);
        dueLatched("a trap one step later", Checks.gate(1, 0, 16, 15, 0), 2, 1);
        dueLatched("a place behind in the last step", Checks.gate(2, 10, 50), 1, 2);
        dueLatched("a place behind one step later", Checks.gate(1, 10, 50), 2, 1);
    }

    // "each is a STEP (that of a place behind the last one and an end, too)"
    private static void anEndIsAStep() {
        TwinGate gate = Checks.gate(9, 14, 0);
        gate.flip(0, 3, 0, 0);
        gate.flip(1, 3, 0, 1);
        gate.flip(0, 4, 0, 2);
        dueEmitted("ends alone", gate, 2);
        checks.due("ahead of the first end", gate.cell(0, 3), 1);
        checks.due("ahead of the second end", gate.cell(1, 3), 1);
        checks.due("behind both", gate.cell(0, 4), 0);
        TwinGate behind = Checks.gate(9, 3, 0);
        behind.flip(0, 3, 0, 1);
        behind.flip(0, 4, 0, 2);
        dueLatched("a place behind the last one", behind, 1, 2);
        checks.due("ahead of its step", behind.cell(0, 3), 1);
        checks.due("behind its step", behind.cell(0, 4), 0);
    }

    // "then the second one (also if the first one put out nothing)"
    private static void theSecondCopyRunsAlsoIfNothingIsPutOut() {
        TwinGate gate = Checks.gate(9, 0, 7, 2, 1, 14, 0);
        dueEmitted("nothing put out", gate, 6);
        checks.due("the second copy's cell", gate.cell(1, 1), 7 * FACTOR);
        for (int port = 0; port < 4; port++) {
            checks.due("output(" + port + ")", gate.output(port), 0);
        }
    }

    // "as it does as soon as a copy TRAPS (1)": nothing behind the trap is done
    private static void aTrapLatchesAtOnce() {
        TwinGate first = Checks.gate(9, 0, 16, 15, 0, 0, 5, 2, 1, 14, 0);
        dueLatched("the first copy", first, 1, 2);
        checks.due("what stands behind the trap", first.cell(0, 1), 0);
        checks.due("the second copy", first.cell(1, 1), 0);
        TwinGate second = Checks.gate(9, 15, 0, 0, 5, 2, 1, 14, 0);
        second.flip(1, Checks.A, 0, 4);
        dueLatched("the second copy", second, 1, 5);
        checks.due("the first copy's cell", second.cell(0, 1), 5);
        checks.due("the second copy's cell", second.cell(1, 1), 0);
    }

    // "begins at place 0 with A and B 0"; cells stay as they are, ports do not
    private static void eachCycleBeginsAtPlace0() {
        // A, B and port 3 are left with something; cell 1 takes A and cell 2 A + B of the beginning.
        TwinGate gate = Checks.gate(20, 2, 1, 4, 0, 2, 2, 1, 5, 13, 3, 0, 9, 3, 0, 2, 5, 14, 0);
        for (int round = 0; round < 3; round++) {
            dueEmitted("round " + round, gate, 18);
            for (int copy = 0; copy < 2; copy++) {
                long one = copy == 0 ? 1 : FACTOR;
                checks.due("A at the beginning", gate.cell(copy, 1), 0);
                checks.due("A + B at the beginning", gate.cell(copy, 2), 0);
                checks.due("A at the end", gate.cell(copy, Checks.A), 9 * one);
                checks.due("B at the end", gate.cell(copy, Checks.B), 9 * one);
            }
            checks.due("the cell of the cycle before", gate.output(3), round == 0 ? 0 : 9);
        }
    }

    // "Once LATCHED there are no more CYCLES, and 0 is put out": cycle() is 0 "if it LATCHES, or has"
    private static void aLatchStaysForGood() {
        // Port 0 tells what to do: nothing, a trap, or going round for ever.
        for (int[] why : new int[][] {{16, 1}, {3, 2}}) {
            TwinGate gate = Checks.gate(9, 0, 8, 13, 1, 12, 0, 11, 6, 15, 0, 11, 5, 14, 0);
            dueEmitted("ahead of it", gate, 10);
            gate.give(0, why[0]);
            dueLatched("the latch", gate, why[1], why[1] == 1 ? 5 : 9);
            gate.give(0, 0);
            String before = Checks.stateOf(gate);
            for (int i = 0; i < 3; i++) {
                checks.due("a cycle once latched", gate.cycle(), 0);
            }
            checks.due("all of it once latched", Checks.stateOf(gate), before);
            checks.due("cycles emitted", gate.count(1), 1);
            checks.due("output", gate.output(1), 0);
        }
    }

    // "An object is used for at most 512 calls": the longest cycles in all of them
    private static void aFullLifeOfCalls() {
        int rounds = (MOST_LIMIT - 4) / 7;
        int padding = MOST_LIMIT - 4 - 7 * rounds;
        TwinGate gate = counting(MOST_LIMIT, rounds, padding);
        int calls = gate.count(0) + 2;
        int[] answers = new int[510 - calls];
        for (int i = 0; i < answers.length; i++) {
            answers[i] = gate.cycle();
        }
        checks.due("all cycles are emitted", Arrays.stream(answers).sum(), answers.length);
        checks.due("cycles emitted", gate.count(1), answers.length);
        checks.due("steps of the last one", gate.count(3), 2 * MOST_LIMIT);
    }
}
