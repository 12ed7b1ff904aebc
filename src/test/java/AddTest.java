/** Promise 2: add. */
public final class AddTest {
    private static final String ARGUMENT = "IllegalArgumentException";
    private static final String STATE = "IllegalStateException";
    private static final Checks checks = new Checks();

    public static void main(String[] args) {
        answersHowManyThereAre();
        refusesOtherOps();
        looksAtNumbers();
        takesAnyNumberWhereNoneIsUsed();
        takesOneHundred();
        nothingBehindACycle();
        whatThrowsChangesNothing();
        checks.end();
    }

    private static void answersHowManyThereAre() {
        TwinGate gate = new TwinGate(10);
        for (int op = 0; op <= 15; op++) {
            checks.due("add(" + op + ", 0)", gate.add(op, 0), op + 1);
            checks.due("count(0)", gate.count(0), op + 1);
        }
    }

    private static void refusesOtherOps() {
        for (int op : new int[] {Integer.MIN_VALUE, -1, 16, 17, 100, Integer.MAX_VALUE}) {
            dueAlone(op, 0, ARGUMENT);
        }
    }

    private static void looksAtNumbers() {
        dueEdges(0, -Checks.BOUND, Checks.BOUND);
        for (int op : new int[] {1, 2}) {
            dueEdges(op, 0, 15);
        }
        for (int op : new int[] {10, 11}) {
            dueEdges(op, 0, 99);
        }
        for (int op : new int[] {12, 13}) {
            dueEdges(op, 0, 3);
        }
    }

    private static void dueEdges(int op, int least, int most) {
        dueAlone(op, least, "1");
        dueAlone(op, most, "1");
        dueAlone(op, least - 1, ARGUMENT);
        dueAlone(op, most + 1, ARGUMENT);
        dueAlone(op, Integer.MIN_VALUE, ARGUMENT);
        dueAlone(op, Integer.MAX_VALUE, ARGUMENT);
    }

    private static void takesAnyNumberWhereNoneIsUsed() {
        for (int op : new int[] {3, 4, 5, 6, 7, 8, 9, 14, 15}) {
            for (int n : new int[] {Integer.MIN_VALUE, -1, 4, 16, 100, Integer.MAX_VALUE}) {
                dueAlone(op, n, "1");
            }
        }
    }

    private static void dueAlone(int op, int n, String want) {
        checks.due("add(" + op + ", " + n + ")", Checks.add(new TwinGate(10), op, n), want);
    }

    private static void takesOneHundred() {
        TwinGate gate = new TwinGate(200);
        for (int i = 1; i <= 100; i++) {
            checks.due("add of " + i, Checks.add(gate, 3, 0), String.valueOf(i));
        }
        checks.due("add of 101", Checks.add(gate, 3, 0), STATE);
        checks.due("wrong add of 101", Checks.add(gate, 16, 0), ARGUMENT);
        checks.due("wrong number of 101", Checks.add(gate, 1, 16), ARGUMENT);
        checks.due("count(0) of 100", gate.count(0), 100);
        checks.due("cycle behind 100", gate.cycle(), 0);
        checks.due("steps behind 100", gate.count(3), 101);
    }

    private static void nothingBehindACycle() {
        TwinGate emitted = Checks.gate(10, 14, 0);
        emitted.cycle();
        checks.due("add behind a cycle", Checks.add(emitted, 14, 0), STATE);
        checks.due("wrong add behind a cycle", Checks.add(emitted, -1, 0), ARGUMENT);
        TwinGate latched = new TwinGate(10);
        latched.cycle();
        checks.due("add behind a latch", Checks.add(latched, 14, 0), STATE);
        checks.due("wrong add behind a latch", Checks.add(latched, 13, 4), ARGUMENT);
        checks.due("count(0) behind a latch", latched.count(0), 0);
    }

    private static void whatThrowsChangesNothing() {
        TwinGate gate = Checks.gate(10, 0, 3, 13, 0);
        String before = Checks.stateOf(gate);
        Checks.add(gate, 16, 0);
        Checks.add(gate, 0, Checks.BOUND + 1);
        Checks.add(gate, 12, -1);
        checks.due("state behind wrong adds", Checks.stateOf(gate), before);
        checks.due("add behind wrong adds", gate.add(14, 0), 3);
        checks.due("cycle behind wrong adds", gate.cycle(), 1);
        checks.due("output behind wrong adds", gate.output(0), 3);
    }
}
