import java.util.ArrayList;
import java.util.List;
import java.util.function.Function;
import java.util.function.Supplier;

/**
 * "What throws or is refused changes nothing": of two gates that were made alike one gets a call
 * that is refused, and both must then tell the same, at once and in all that is done with them.
 */
public final class RefusedTest {
    private static final int HIGH = Integer.MAX_VALUE;
    private static final int LOW = Integer.MIN_VALUE;
    private static final String ARGUMENT = "IllegalArgumentException";
    private static final String STATE = "IllegalStateException";
    private static final String INDEX = "IndexOutOfBoundsException";
    private static final String NONE = "-1";
    private static final String NO = "false";
    private static final Checks checks = new Checks();

    /** A call with its name and the answer that is due. */
    private record Call(String name, String want, Function<TwinGate, String> on) { }

    public static void main(String[] args) {
        List<Call> always = callsThatAreAlwaysRefused();
        List<Call> noMore = new ArrayList<>(always);
        noMore.addAll(rightAdds());
        List<Call> noFlips = new ArrayList<>(always);
        noFlips.addAll(rightFlips());
        List<Call> latched = new ArrayList<>(noMore);
        latched.addAll(rightFlips());
        latched.add(new Call("cycle()", "0", gate -> String.valueOf(gate.cycle())));

        dueUnchanged("new", always, () -> new TwinGate(20));
        dueUnchanged("half a program", always, () -> Checks.gate(20, 12, 2, 13, 0));
        dueUnchanged("ready", always, RefusedTest::ready);
        dueUnchanged("four planned", noFlips, RefusedTest::withFourPlanned);
        dueUnchanged("full", noMore, RefusedTest::full);
        dueUnchanged("emitted", noMore, RefusedTest::emitted);
        dueUnchanged("latched by a trap", latched, RefusedTest::trapped);
        dueUnchanged("latched by the limit", latched, RefusedTest::endless);
        dueUnchanged("latched by the gate", latched, RefusedTest::disagreeing);
        statesAreWhatTheirNamesSay();
        checks.end();
    }

    private static void statesAreWhatTheirNamesSay() {
        checks.due("four planned", withFourPlanned().count(4), 4);
        checks.due("full", full().count(0), 100);
        checks.due("emitted", emitted().count(1), 1);
        checks.due("latched by a trap", trapped().count(2), 1);
        checks.due("latched by the limit", endless().count(2), 2);
        checks.due("latched by the gate", disagreeing().count(2), 3);
    }

    private static Call add(int op, int n, String want) {
        return new Call("add(" + op + ", " + n + ")", want, gate -> Checks.add(gate, op, n));
    }

    private static Call give(int port, int v) {
        return new Call("give(" + port + ", " + v + ")", NO, gate -> String.valueOf(gate.give(port, v)));
    }

    private static Call flip(int copy, int cell, int bit, int step) {
        return new Call("flip(" + copy + ", " + cell + ", " + bit + ", " + step + ")", NO,
            gate -> String.valueOf(gate.flip(copy, cell, bit, step)));
    }

    private static Call cell(int copy, int cell) {
        return new Call("cell(" + copy + ", " + cell + ")", INDEX, gate -> Checks.cell(gate, copy, cell));
    }

    private static Call output(int port) {
        return new Call("output(" + port + ")", NONE, gate -> String.valueOf(gate.output(port)));
    }

    private static Call count(int what) {
        return new Call("count(" + what + ")", NONE, gate -> String.valueOf(gate.count(what)));
    }

    private static List<Call> callsThatAreAlwaysRefused() {
        int beyond = Checks.BOUND + 1;
        List<Call> calls = new ArrayList<>(wrongAdds());
        for (int port = 0; port < 4; port++) {
            calls.addAll(List.of(give(port, beyond), give(port, -beyond), give(port, HIGH), give(port, LOW)));
        }
        for (int port : new int[] {LOW, -1, 4, HIGH}) {
            calls.addAll(List.of(give(port, 1), give(port, beyond), output(port)));
        }
        for (int copy : new int[] {LOW, -1, 2, HIGH}) {
            calls.addAll(List.of(flip(copy, 0, 0, 0), cell(copy, 0), cell(copy, 18)));
        }
        for (int copy = 0; copy < 2; copy++) {
            for (int cell : new int[] {LOW, -1, 18, HIGH}) {
                calls.addAll(List.of(flip(copy, cell, 0, 0), cell(copy, cell)));
            }
            for (int bit : new int[] {LOW, -1, 64, HIGH}) {
                calls.add(flip(copy, 5, bit, 0));
            }
            calls.addAll(List.of(flip(copy, 5, 0, -1), flip(copy, 5, 0, LOW)));
        }
        for (int what : new int[] {LOW, -1, 7, HIGH}) {
            calls.add(count(what));
        }
        return calls;
    }

    /** "IllegalStateException (this last)": these are wrong in every state. */
    private static List<Call> wrongAdds() {
        List<Call> calls = new ArrayList<>();
        int[][] edges = {
            {0, -Checks.BOUND - 1, Checks.BOUND + 1}, {1, -1, 16}, {2, -1, 16}, {10, -1, 100},
            {11, -1, 100}, {12, -1, 4}, {13, -1, 4}
        };
        for (int[] row : edges) {
            for (int n : new int[] {row[1], row[2], LOW, HIGH}) {
                calls.add(add(row[0], n, ARGUMENT));
            }
        }
        for (int op : new int[] {LOW, -1, 16, HIGH}) {
            calls.addAll(List.of(add(op, 0, ARGUMENT), add(op, HIGH, ARGUMENT)));
        }
        return calls;
    }

    private static List<Call> rightAdds() {
        List<Call> calls = new ArrayList<>();
        for (int op = 0; op <= 15; op++) {
            calls.add(add(op, 0, STATE));
        }
        calls.addAll(List.of(add(0, Checks.BOUND, STATE), add(10, 99, STATE), add(13, 3, STATE)));
        return calls;
    }

    private static List<Call> rightFlips() {
        return List.of(flip(0, 0, 0, 0), flip(1, 17, 63, 3), flip(0, 5, 5, HIGH));
    }

    /** All four ports are taken, kept in cells and put out, so that nothing given stays hidden. */
    private static TwinGate echo(int limit) {
        TwinGate gate = new TwinGate(limit);
        for (int port = 0; port < 4; port++) {
            gate.add(12, port);
            gate.add(2, port + 5);
            gate.add(13, port);
        }
        for (int port = 0; port < 4; port++) {
            gate.give(port, 11 * port - 7);
        }
        return gate;
    }

    private static TwinGate ready() {
        TwinGate gate = echo(20);
        gate.flip(0, 1, 3, 4);
        gate.flip(1, 2, 4, 15);
        return gate;
    }

    private static TwinGate withFourPlanned() {
        TwinGate gate = ready();
        gate.flip(1, 3, 5, 1);
        gate.flip(0, 4, 6, 22);
        return gate;
    }

    private static TwinGate full() {
        TwinGate gate = echo(150);
        while (gate.count(0) < 99) {
            gate.add(3, 0);
        }
        gate.add(14, 0);
        gate.flip(0, 1, 3, 4);
        return gate;
    }

    private static TwinGate emitted() {
        TwinGate gate = echo(20);
        gate.add(14, 0);
        gate.flip(0, 1, 2, 3);
        gate.cycle();
        gate.give(2, 1999);
        gate.flip(0, 1, 3, 4);
        gate.flip(1, 2, 4, 15);
        return gate;
    }

    private static TwinGate trapped() {
        TwinGate gate = echo(20);
        gate.flip(1, 5, 1, 12);
        gate.cycle();
        return gate;
    }

    private static TwinGate endless() {
        TwinGate gate = echo(20);
        gate.add(10, 12);
        gate.flip(1, 5, 1, 12);
        gate.cycle();
        return gate;
    }

    private static TwinGate disagreeing() {
        TwinGate gate = echo(20);
        gate.add(14, 0);
        gate.cycle();
        gate.flip(1, Checks.A, 1, 15);
        gate.cycle();
        return gate;
    }

    private static void dueUnchanged(String name, List<Call> calls, Supplier<TwinGate> maker) {
        for (Call call : calls) {
            TwinGate called = maker.get();
            TwinGate left = maker.get();
            checks.due(name + ": " + call.name, call.on.apply(called), call.want);
            checks.due(name + ": all behind " + call.name, allThatFollows(called), allThatFollows(left));
        }
    }

    private static String allThatFollows(TwinGate gate) {
        StringBuilder text = new StringBuilder(Checks.stateOf(gate));
        text.append(Checks.add(gate, 0, 31)).append(' ').append(Checks.add(gate, 14, 0)).append(' ');
        for (int i = 0; i < 5; i++) {
            text.append(gate.flip(i % 2, 8 + i, i, 2 * i)).append(' ');
        }
        text.append(gate.cycle()).append(' ').append(Checks.stateOf(gate));
        text.append(gate.give(1, 77)).append(' ').append(gate.flip(0, 0, 0, 0)).append(' ');
        text.append(gate.cycle()).append(' ').append(Checks.stateOf(gate));
        text.append(gate.cycle()).append(' ').append(Checks.stateOf(gate));
        return text.toString();
    }
}
