/** What the project's tests share: due answers, calls that throw, and programs written as rows. */
final class Checks {
    static final long FACTOR = 58659L;
    static final int BOUND = 2000000000;
    static final int A = 16;
    static final int B = 17;

    private static final int SHOWN_AT_MOST = 50;

    private int wrong = 0;

    void due(String call, long got, long want) {
        if (got != want) {
            tell(call + " answered " + got + ", due is " + want);
        }
    }

    void due(String call, boolean got, boolean want) {
        if (got != want) {
            tell(call + " answered " + got + ", due is " + want);
        }
    }

    void due(String call, String got, String want) {
        if (!got.equals(want)) {
            tell(call + " answered " + got + ", due is " + want);
        }
    }

    private void tell(String fault) {
        wrong++;
        if (wrong <= SHOWN_AT_MOST) {
            System.out.println(fault);
        }
    }

    void end() {
        System.out.println(wrong == 0 ? "all answers are as due" : wrong + " answers are not as due");
        if (wrong != 0) {
            System.exit(1);
        }
    }

    static String add(TwinGate gate, int op, int n) {
        try {
            return String.valueOf(gate.add(op, n));
        } catch (RuntimeException e) {
            return e.getClass().getSimpleName();
        }
    }

    static String cell(TwinGate gate, int copy, int cell) {
        try {
            return String.valueOf(gate.cell(copy, cell));
        } catch (RuntimeException e) {
            return e.getClass().getSimpleName();
        }
    }

    /** A gate whose program is the pairs of an op and a number. */
    static TwinGate gate(int limit, int... pairs) {
        TwinGate gate = new TwinGate(limit);
        for (int i = 0; i + 1 < pairs.length; i += 2) {
            gate.add(pairs[i], pairs[i + 1]);
        }
        return gate;
    }

    /** Everything that the face tells of a gate, but for what is given and the flips' own places. */
    static String stateOf(TwinGate gate) {
        StringBuilder text = new StringBuilder();
        for (int what = 0; what <= 6; what++) {
            text.append(gate.count(what)).append(' ');
        }
        for (int port = 0; port < 4; port++) {
            text.append(gate.output(port)).append(' ');
        }
        for (int copy = 0; copy < 2; copy++) {
            for (int cell = 0; cell < 18; cell++) {
                text.append(gate.cell(copy, cell)).append(' ');
            }
        }
        return text.toString();
    }
}
