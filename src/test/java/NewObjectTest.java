/** Promise 1: a new object. */
public final class NewObjectTest {
    private static final Checks checks = new Checks();

    public static void main(String[] args) {
        checks.due("NONE", TwinGate.NONE, -1);
        limitIsTheNearestOne();
        allIsEmpty();
        nothingIsGiven();
        objectsAreApart();
        checks.end();
    }

    private static void limitIsTheNearestOne() {
        int[][] rows = {
            {Integer.MIN_VALUE, 1}, {-1, 1}, {0, 1}, {1, 1}, {2, 2}, {777, 777}, {4999, 4999},
            {5000, 5000}, {5001, 5000}, {Integer.MAX_VALUE, 5000}
        };
        for (int[] row : rows) {
            checks.due("count(6) of limit " + row[0], new TwinGate(row[0]).count(6), row[1]);
        }
    }

    private static void allIsEmpty() {
        TwinGate gate = new TwinGate(10);
        for (int what = 0; what <= 5; what++) {
            checks.due("new count(" + what + ")", gate.count(what), 0);
        }
        for (int cell = 0; cell < 18; cell++) {
            checks.due("new cell(0, " + cell + ")", gate.cell(0, cell), 0);
            checks.due("new cell(1, " + cell + ")", gate.cell(1, cell), 0);
        }
        for (int port = 0; port < 4; port++) {
            checks.due("new output(" + port + ")", gate.output(port), 0);
        }
    }

    private static void nothingIsGiven() {
        for (int port = 0; port < 4; port++) {
            TwinGate gate = Checks.gate(10, 0, 9, 12, port, 2, 0, 14, 0);
            checks.due("cycle with nothing given", gate.cycle(), 1);
            checks.due("cell(0, 0) with nothing given", gate.cell(0, 0), 0);
            checks.due("cell(1, 0) with nothing given", gate.cell(1, 0), 0);
        }
    }

    private static void objectsAreApart() {
        TwinGate one = Checks.gate(10, 12, 0, 2, 3, 13, 0, 14, 0);
        TwinGate other = Checks.gate(20, 14, 0);
        String before = Checks.stateOf(other);
        one.give(0, 5);
        one.flip(0, 1, 1, 0);
        one.cycle();
        checks.due("another object's state", Checks.stateOf(other), before);
    }
}
