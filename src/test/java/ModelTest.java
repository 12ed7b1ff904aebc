/** Long runs of calls, from a fixed seed, answered by TwinGate and by the model alike. */
public final class ModelTest {
    private static final int RUNS = 6000;
    // What an object answers behind its 512th call is free: runs stop well ahead of that.
    private static final int CALLS = 430;
    private static final int TURNS = 60;
    private static final int[] NUMBERS = {
        0, 0, 1, 1, 2, 3, 5, 15, 16, -1, -2, -7, 17, 99, 100, 44721, -44722, 58659, 2000000000,
        -2000000000, 1999999999, 2000000001, -2000000001, Integer.MAX_VALUE, Integer.MIN_VALUE
    };
    // Fewer jumps and ends than other ops, so that programs get somewhere.
    private static final int[] OPS = {
        0, 1, 2, 3, 4, 5, 6, 7, 8, 9, 12, 13, 0, 1, 2, 3, 4, 5, 6, 7, 8, 9, 12, 13, 15, 15, 10, 11, 11, 14
    };
    private static final int[] LIMITS = {-3, 0, 1, 2, 5, 9, 20, 40, 100, 300, 5000, 5001};

    private static final Checks checks = new Checks();
    private static final int[] whys = new int[4];
    private static long seed = 20261115L;
    private static int emitted = 0;
    private static int calls = 0;

    public static void main(String[] args) {
        for (int run = 0; run < RUNS; run++) {
            doRun(run);
        }
        System.out.println("emitted cycles " + emitted + ", ends: open " + whys[0] + ", traps " + whys[1]
            + ", limits " + whys[2] + ", gates " + whys[3]);
        for (int why = 0; why < whys.length; why++) {
            checks.due("runs that end with why " + why + " are many", whys[why] > RUNS / 50, true);
        }
        checks.due("emitted cycles are many", emitted > RUNS, true);
        checks.end();
    }

    private static int below(int end) {
        seed = seed * 6364136223846793005L + 1442695040888963407L;
        return (int) ((seed >>> 33) % end);
    }

    private static int one(int[] numbers) {
        return numbers[below(numbers.length)];
    }

    private static void same(int run, String call, Object got, Object want) {
        calls++;
        checks.due("run " + run + ": " + call, String.valueOf(got), String.valueOf(want));
    }

    private static void doRun(int run) {
        int limit = one(LIMITS);
        TwinGate gate = new TwinGate(limit);
        Model model = new Model(limit);
        calls = 0;
        addProgram(run, gate, model);
        for (int i = 0; i < TURNS && calls < CALLS; i++) {
            doCall(run, gate, model);
        }
        compareAll(run, gate, model);
        emitted += gate.count(1);
        whys[gate.count(2)]++;
    }

    private static void addProgram(int run, TwinGate gate, Model model) {
        int size = below(20) == 0 ? 95 + below(8) : below(24);
        for (int i = 0; i < size; i++) {
            int op = below(40) == 0 ? below(40) - 10 : one(OPS);
            compareAdd(run, gate, model, op, numberFor(op, size));
        }
        if (below(8) != 0) {
            compareAdd(run, gate, model, 13, below(4));
            compareAdd(run, gate, model, 14, one(NUMBERS));
        }
    }

    private static int numberFor(int op, int size) {
        if (below(30) == 0) {
            return one(NUMBERS);
        }
        switch (op) {
            case 1:
            case 2:
                return below(3) == 0 ? below(16) : below(3);
            case 10:
            case 11:
                return below(size + 2);
            case 12:
            case 13:
                return below(4);
            default:
                return below(3) == 0 ? one(NUMBERS) : below(16);
        }
    }

    private static void compareAdd(int run, TwinGate gate, Model model, int op, int n) {
        same(run, "add(" + op + ", " + n + ")", Checks.add(gate, op, n), model.add(op, n));
    }

    private static void doCall(int run, TwinGate gate, Model model) {
        switch (below(8)) {
            case 0:
            case 1:
                same(run, "cycle()", gate.cycle(), model.cycle());
                compareWhatACycleTells(run, gate, model);
                break;
            case 2:
                compareFlip(run, gate, model);
                break;
            case 3:
            case 4:
                int port = below(5);
                int v = below(2) == 0 ? one(NUMBERS) : below(20);
                same(run, "give(" + port + ", " + v + ")", gate.give(port, v), model.give(port, v));
                break;
            case 5:
                compareAdd(run, gate, model, below(18) - 1, one(NUMBERS));
                break;
            case 6:
                compareOne(run, gate, model, below(4) - 1, below(20) - 1);
                break;
            default:
                int what = below(10) - 1;
                same(run, "count(" + what + ")", gate.count(what), model.count(what));
                same(run, "output(" + what + ")", gate.output(what), model.output(what));
                break;
        }
    }

    private static void compareFlip(int run, TwinGate gate, Model model) {
        int copy = below(20) == 0 ? below(5) - 2 : below(2);
        int cell = below(20) == 0 ? below(30) - 5 : below(2) == 0 ? 16 + below(2) : below(16);
        int bit = below(20) == 0 ? below(80) - 8 : below(64);
        int step = below(20) == 0 ? one(NUMBERS) : below(60);
        same(run, "flip(" + copy + ", " + cell + ", " + bit + ", " + step + ")",
            gate.flip(copy, cell, bit, step), model.flip(copy, cell, bit, step));
    }

    private static void compareOne(int run, TwinGate gate, Model model, int copy, int cell) {
        same(run, "cell(" + copy + ", " + cell + ")", Checks.cell(gate, copy, cell),
            model.cell(copy, cell));
    }

    private static void compareWhatACycleTells(int run, TwinGate gate, Model model) {
        for (int what : new int[] {1, 2, 3, 5}) {
            same(run, "count(" + what + ")", gate.count(what), model.count(what));
        }
        for (int port = 0; port < 4; port++) {
            same(run, "output(" + port + ")", gate.output(port), model.output(port));
        }
        for (int copy = 0; copy < 2; copy++) {
            compareOne(run, gate, model, copy, Checks.A);
            compareOne(run, gate, model, copy, Checks.B);
        }
    }

    private static void compareAll(int run, TwinGate gate, Model model) {
        for (int what = -1; what <= 7; what++) {
            same(run, "count(" + what + ")", gate.count(what), model.count(what));
        }
        for (int port = -1; port <= 4; port++) {
            same(run, "output(" + port + ")", gate.output(port), model.output(port));
        }
        for (int copy = 0; copy < 2; copy++) {
            for (int cell = 0; cell < 18; cell++) {
                compareOne(run, gate, model, copy, cell);
            }
        }
        checks.due("run " + run + " has no more calls than an object is used for", calls <= 510, true);
    }
}
