/**
 * The edges of the OPs: 64 bits that go round, the last number that is no TRAP and the first one
 * that is, on either side and in both copies.
 */
public final class OpEdgesTest {
    private static final long FACTOR = Checks.FACTOR;
    private static final long LOWEST = Long.MIN_VALUE;
    private static final long HIGHEST = Long.MAX_VALUE;
    private static final long WORD = 1L << 32;
    private static final int SUM = 4;
    private static final int DIFFERENCE = 5;
    private static final int PRODUCT = 6;
    private static final int BELOW = 7;
    private static final int SAME = 8;
    private static final int NEGATIVE = 9;
    private static final Checks checks = new Checks();

    public static void main(String[] args) {
        for (int copy = 0; copy < 2; copy++) {
            sumsAtTheBound(copy);
            sumsThatGoRound(copy);
            differencesAtTheBound(copy);
            differencesThatGoRound(copy);
            negativesAtTheBound(copy);
            productsAtTheBound(copy);
            productsBeyond64Bits(copy);
            comparisonsOfAll64Bits(copy);
            otherOpsHaveNoBound(copy);
            aJumpLooksAtAll64Bits(copy);
        }
        productsOfTheFirstCopyNeedNoMultiple();
        productsOfTheSecondCopyMustBeMultiples();
        productsThatJustFit();
        constantsAtTheBound();
        givenNumbersAtTheBound();
        cellNumbersOfTheFirstCopy();
        cellNumbersOfTheSecondCopy();
        checks.end();
    }

    private static long factorOf(int copy) {
        return copy == 0 ? 1 : FACTOR;
    }

    private static long boundOf(int copy) {
        return Checks.BOUND * factorOf(copy);
    }

    /** A program that loads A from cell 0 and B from cell 1 and does the op in its sixth step. */
    private static Wide opOn(int copy, int op, long a, long b) {
        return new Wide(50, 1, 1, 3, 0, 1, 0, op, 0).hold(copy, 0, a).hold(copy, 1, b);
    }

    private static String nameOf(int copy, int op, long a, long b) {
        return "copy " + copy + ", op " + op + " of " + a + " and " + b;
    }

    private static void dueA(int copy, int op, long a, long b, long want) {
        String name = nameOf(copy, op, a, b);
        TwinGate gate = opRun(name, copy, op, a, b, 1);
        checks.due(name + ": why", gate.count(2), 0);
        checks.due(name + ": A", gate.cell(copy, Checks.A), want);
        checks.due(name + ": B", gate.cell(copy, Checks.B), b);
    }

    private static void dueTrap(int copy, int op, long a, long b, long want) {
        String name = nameOf(copy, op, a, b);
        TwinGate gate = opRun(name, copy, op, a, b, 0);
        checks.due(name + ": why", gate.count(2), 1);
        checks.due(name + ": steps", gate.count(3), copy == 0 ? 6 : 13);
        checks.due(name + ": A", gate.cell(copy, Checks.A), want);
    }

    private static TwinGate opRun(String name, int copy, int op, long a, long b, int want) {
        Wide wide = opOn(copy, op, a, b);
        checks.due(name + ": cell 0", wide.gate.cell(copy, 0), a);
        checks.due(name + ": cell 1", wide.gate.cell(copy, 1), b);
        checks.due(name + ": cycle()", wide.run(), want);
        return wide.gate;
    }

    // "A beyond 2000000000 (of the second copy 58659 times that) on either side behind 4 .. a TRAP"
    private static void sumsAtTheBound(int copy) {
        long bound = boundOf(copy);
        dueA(copy, SUM, bound, 0, bound);
        dueA(copy, SUM, bound - 1, 1, bound);
        dueA(copy, SUM, -bound, 0, -bound);
        dueA(copy, SUM, 1 - bound, -1, -bound);
        dueTrap(copy, SUM, bound, 1, bound + 1);
        dueTrap(copy, SUM, -bound, -1, -bound - 1);
        // It is A behind the op that counts, not A ahead of it.
        dueA(copy, SUM, bound + 1, -1, bound);
        dueTrap(copy, SUM, bound + 1, 0, bound + 1);
        dueTrap(copy, SUM, -bound - 1, 0, -bound - 1);
    }

    // "A and B (64 bits that go round)"
    private static void sumsThatGoRound(int copy) {
        dueA(copy, SUM, HIGHEST, HIGHEST, -2);
        dueA(copy, SUM, LOWEST, LOWEST, 0);
        dueA(copy, SUM, HIGHEST, LOWEST, -1);
        dueA(copy, SUM, LOWEST, HIGHEST, -1);
        dueTrap(copy, SUM, HIGHEST, 1, LOWEST);
        dueTrap(copy, SUM, LOWEST, -1, HIGHEST);
    }

    // ".. behind 5 .. a TRAP"
    private static void differencesAtTheBound(int copy) {
        long bound = boundOf(copy);
        dueA(copy, DIFFERENCE, bound, 0, bound);
        dueA(copy, DIFFERENCE, 0, bound, -bound);
        dueA(copy, DIFFERENCE, 0, -bound, bound);
        dueTrap(copy, DIFFERENCE, bound, -1, bound + 1);
        dueTrap(copy, DIFFERENCE, -bound, 1, -bound - 1);
        dueA(copy, DIFFERENCE, bound + 1, 1, bound);
        dueTrap(copy, DIFFERENCE, bound + 1, 0, bound + 1);
    }

    private static void differencesThatGoRound(int copy) {
        dueA(copy, DIFFERENCE, LOWEST, HIGHEST, 1);
        dueA(copy, DIFFERENCE, HIGHEST, LOWEST, -1);
        dueA(copy, DIFFERENCE, LOWEST, LOWEST, 0);
        dueTrap(copy, DIFFERENCE, LOWEST, 1, HIGHEST);
        dueTrap(copy, DIFFERENCE, HIGHEST, -1, LOWEST);
        dueTrap(copy, DIFFERENCE, 0, LOWEST, LOWEST);
    }

    // ".. behind 9 .. a TRAP"; the lowest number's negative goes round to itself
    private static void negativesAtTheBound(int copy) {
        long bound = boundOf(copy);
        dueA(copy, NEGATIVE, 0, 0, 0);
        dueA(copy, NEGATIVE, bound, 0, -bound);
        dueA(copy, NEGATIVE, -bound, 0, bound);
        dueTrap(copy, NEGATIVE, bound + 1, 0, -bound - 1);
        dueTrap(copy, NEGATIVE, -bound - 1, 0, bound + 1);
        dueTrap(copy, NEGATIVE, HIGHEST, 0, -HIGHEST);
        dueTrap(copy, NEGATIVE, LOWEST, 0, LOWEST);
    }

    // ".. behind 6 .. a TRAP"
    private static void productsAtTheBound(int copy) {
        long one = factorOf(copy);
        long bound = boundOf(copy);
        dueA(copy, PRODUCT, one, bound, bound);
        dueA(copy, PRODUCT, bound, one, bound);
        dueA(copy, PRODUCT, -one, bound, -bound);
        dueA(copy, PRODUCT, -one, -bound, bound);
        dueTrap(copy, PRODUCT, one, bound + 1, bound + 1);
        dueTrap(copy, PRODUCT, bound + 1, one, bound + 1);
        dueTrap(copy, PRODUCT, -one, bound + 1, -bound - 1);
        dueTrap(copy, PRODUCT, one, -bound - 1, -bound - 1);
        dueTrap(copy, PRODUCT, -one, -bound - 1, bound + 1);
        dueA(copy, PRODUCT, 0, LOWEST, 0);
        dueA(copy, PRODUCT, LOWEST, 0, 0);
        dueA(copy, PRODUCT, 0, HIGHEST, 0);
        dueA(copy, PRODUCT, 0, 0, 0);
    }

    // "of both copies: a product beyond 64 bits is a TRAP", also where it would go round to little
    private static void productsBeyond64Bits(int copy) {
        dueTrap(copy, PRODUCT, WORD, WORD, WORD);
        dueTrap(copy, PRODUCT, -WORD, WORD, -WORD);
        dueTrap(copy, PRODUCT, 2, LOWEST, 2);
        dueTrap(copy, PRODUCT, LOWEST, 2, LOWEST);
        dueTrap(copy, PRODUCT, LOWEST, LOWEST, LOWEST);
        dueTrap(copy, PRODUCT, HIGHEST, HIGHEST, HIGHEST);
        dueTrap(copy, PRODUCT, WORD + 1, WORD - 1, WORD + 1);
        dueTrap(copy, PRODUCT, -1, LOWEST, -1);
        dueTrap(copy, PRODUCT, LOWEST, -1, LOWEST);
        dueTrap(copy, PRODUCT, LOWEST, -2, LOWEST);
        dueTrap(copy, PRODUCT, 1L << 62, 4 * FACTOR, 1L << 62);
    }

    private static void productsOfTheFirstCopyNeedNoMultiple() {
        dueA(0, PRODUCT, 1, FACTOR + 1, FACTOR + 1);
        dueA(0, PRODUCT, -7, FACTOR - 1, -7 * (FACTOR - 1));
    }

    // "6: A * B must be a multiple of 58659, A is that part"
    private static void productsOfTheSecondCopyMustBeMultiples() {
        for (long sign = -1; sign <= 1; sign += 2) {
            dueA(1, PRODUCT, sign, FACTOR, sign);
            dueA(1, PRODUCT, sign * 3, 5 * FACTOR, sign * 15);
            dueTrap(1, PRODUCT, sign, FACTOR + 1, sign);
            dueTrap(1, PRODUCT, sign, FACTOR - 1, sign);
            dueTrap(1, PRODUCT, sign, 1, sign);
            dueTrap(1, PRODUCT, sign * (15 * FACTOR + 1), 1, sign * (15 * FACTOR + 1));
            dueTrap(1, PRODUCT, sign * (15 * FACTOR - 1), 1, sign * (15 * FACTOR - 1));
        }
        dueTrap(1, PRODUCT, LOWEST, 1, LOWEST);
        dueTrap(1, PRODUCT, HIGHEST, 1, HIGHEST);
    }

    /** The highest products of 64 bits are beyond the bound, but A is the part of them first. */
    private static void productsThatJustFit() {
        dueTrap(0, PRODUCT, 7, HIGHEST / 7, HIGHEST);
        dueTrap(0, PRODUCT, 7, HIGHEST / 7 + 1, 7);
        dueTrap(0, PRODUCT, 1, LOWEST, LOWEST);
        dueTrap(0, PRODUCT, LOWEST, 1, LOWEST);
        dueTrap(0, PRODUCT, -2, 1L << 62, LOWEST);
        dueTrap(0, PRODUCT, 2, 1L << 62, 2);
        long most = HIGHEST / FACTOR;
        dueTrap(1, PRODUCT, FACTOR, most, most);
        dueTrap(1, PRODUCT, FACTOR, most + 1, FACTOR);
        dueTrap(1, PRODUCT, FACTOR, -most, -most);
        dueTrap(1, PRODUCT, FACTOR, -most - 1, FACTOR);
    }

    // "7 A = 1 if A is below B, else 0. 8 A = 1 if A is B, else 0", with 1 58659 times that
    private static void comparisonsOfAll64Bits(int copy) {
        long one = factorOf(copy);
        dueA(copy, BELOW, LOWEST, HIGHEST, one);
        dueA(copy, BELOW, HIGHEST, LOWEST, 0);
        dueA(copy, BELOW, LOWEST, LOWEST + 1, one);
        dueA(copy, BELOW, LOWEST, LOWEST, 0);
        dueA(copy, BELOW, 1, WORD, one);
        dueA(copy, BELOW, WORD, 1, 0);
        dueA(copy, BELOW, -1, 0, one);
        dueA(copy, BELOW, 0, -1, 0);
        dueA(copy, BELOW, 0, 0, 0);
        dueA(copy, BELOW, 0, 1, one);
        dueA(copy, SAME, LOWEST, LOWEST, one);
        dueA(copy, SAME, LOWEST, HIGHEST, 0);
        dueA(copy, SAME, 5, 5 + WORD, 0);
        dueA(copy, SAME, 0, LOWEST, 0);
        dueA(copy, SAME, 0, WORD, 0);
        dueA(copy, SAME, 0, 0, one);
        dueA(copy, SAME, 6, 5, 0);
    }

    /** Only behind 4, 5, 6, 9 and 12 is A beyond the bound a trap. */
    private static void otherOpsHaveNoBound(int copy) {
        for (long value : new long[] {LOWEST, HIGHEST, boundOf(copy) + 1, -boundOf(copy) - 1}) {
            // 1, 2 and 3
            Wide moved = new Wide(50, 1, 0, 2, 15, 3, 0).hold(copy, 0, value);
            checks.due("loading and storing " + value, moved.run(), 1);
            checks.due("the cell", moved.gate.cell(copy, 15), value);
            checks.due("A", moved.gate.cell(copy, Checks.A), value);
            checks.due("B", moved.gate.cell(copy, Checks.B), value);
            // 15, of cell 0, as A is 0
            Wide looked = new Wide(50, 0, 0, 15, 0).hold(copy, 0, value);
            checks.due("looking up " + value, looked.run(), 1);
            checks.due("A", looked.gate.cell(copy, Checks.A), value);
            // 10 and 11, both to the next place
            Wide gone = new Wide(50, 1, 0, 10, 4, 11, 5).hold(copy, 0, value);
            checks.due("going with " + value, gone.run(), 1);
            checks.due("A", gone.gate.cell(copy, Checks.A), value);
            // 13: the gate has no use for it, but it is no trap
            Wide put = new Wide(50, 1, 0, 13, 2).hold(copy, 0, value);
            checks.due("putting out " + value, put.run(), 0);
            checks.due("why", put.gate.count(2), 3);
        }
    }

    // "11 goes to n if A is 0"
    private static void aJumpLooksAtAll64Bits(int copy) {
        for (long value : new long[] {0, 1, -1, WORD, -WORD, LOWEST, HIGHEST}) {
            // Cell 5 is written only where nothing went past it.
            Wide wide = new Wide(50, 1, 0, 11, 6, 0, 9, 2, 5).hold(copy, 0, value);
            checks.due("a jump with " + value, wide.run(), 1);
            checks.due("what stands behind a jump with " + value, wide.gate.cell(copy, 5),
                value == 0 ? 0 : 9 * factorOf(copy));
        }
    }

    // "n of 0 .. are 58659 times that"
    private static void constantsAtTheBound() {
        for (int n : new int[] {-Checks.BOUND, -Checks.BOUND + 1, -1, 0, 1, Checks.BOUND - 1, Checks.BOUND}) {
            TwinGate gate = Checks.gate(9, 0, n, 13, 3, 14, 0);
            checks.due("cycle with " + n, gate.cycle(), 1);
            checks.due("output", gate.output(3), n);
            checks.due("first A", gate.cell(0, Checks.A), n);
            checks.due("second A", gate.cell(1, Checks.A), n * FACTOR);
        }
    }

    // ".. behind 12 .. a TRAP": what can be given never is one, and what was given is 58659 times that
    private static void givenNumbersAtTheBound() {
        for (int port = 0; port < 4; port++) {
            for (int v : new int[] {-Checks.BOUND, -1, 0, 1, Checks.BOUND}) {
                TwinGate gate = Checks.gate(9, 12, port, 13, port, 14, 0);
                gate.give(port, v);
                checks.due("cycle with " + v + " at port " + port, gate.cycle(), 1);
                checks.due("output", gate.output(port), v);
                checks.due("first A", gate.cell(0, Checks.A), v);
                checks.due("second A", gate.cell(1, Checks.A), v * FACTOR);
            }
        }
    }

    /** Cell 14 holds the number that is looked up, each other cell one of its own. */
    private static Wide lookUp(int copy, long number) {
        return new Wide(50, 1, 14, 15, 0).hold(copy, 0, 70).hold(copy, 1, 71).hold(copy, 13, 83)
            .hold(copy, 15, 85).hold(copy, 14, number);
    }

    private static void dueLookedUp(int copy, long number, long want) {
        Wide wide = lookUp(copy, number);
        checks.due("copy " + copy + " looks up " + number, wide.run(), 1);
        checks.due("what it finds", wide.gate.cell(copy, Checks.A), want);
    }

    private static void dueNoCell(int copy, long number) {
        Wide wide = lookUp(copy, number);
        checks.due("copy " + copy + " looks up " + number, wide.run(), 0);
        checks.due("why", wide.gate.count(2), 1);
        checks.due("steps", wide.gate.count(3), copy == 0 ? 4 : 9);
        checks.due("A", wide.gate.cell(copy, Checks.A), number);
    }

    // "a cell's number not 0 .. 15 .. a TRAP": A and B are not reached by their numbers 16 and 17
    private static void cellNumbersOfTheFirstCopy() {
        dueLookedUp(0, 0, 70);
        dueLookedUp(0, 1, 71);
        dueLookedUp(0, 13, 83);
        dueLookedUp(0, 14, 14);
        dueLookedUp(0, 15, 85);
        for (long number : new long[] {-1, 16, 17, 18, WORD, WORD + 1, -WORD, LOWEST, LOWEST + 1, HIGHEST}) {
            dueNoCell(0, number);
        }
    }

    // "15: A must be a multiple, the cell's number is that part"
    private static void cellNumbersOfTheSecondCopy() {
        dueLookedUp(1, 0, 70);
        dueLookedUp(1, FACTOR, 71);
        dueLookedUp(1, 13 * FACTOR, 83);
        dueLookedUp(1, 14 * FACTOR, 14 * FACTOR);
        dueLookedUp(1, 15 * FACTOR, 85);
        long[] wrong = {
            1, -1, 15, 16, FACTOR - 1, FACTOR + 1, 15 * FACTOR - 1, 15 * FACTOR + 1, 16 * FACTOR - 1,
            16 * FACTOR, 17 * FACTOR, -FACTOR, WORD * FACTOR, WORD * FACTOR + FACTOR, LOWEST, HIGHEST
        };
        for (long number : wrong) {
            dueNoCell(1, number);
        }
    }
}
