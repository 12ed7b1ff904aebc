import java.util.Arrays;

/**
 * Two copies of one program, the second with all values multiplied by 58659, and a gate that
 * emits what both agree upon, cycle by cycle, or latches.
 */
public final class TwinGate {
    public static final int NONE = -1;

    private static final int FACTOR = 58659;
    private static final int BOUND = 2000000000;
    private static final int LEAST_LIMIT = 1;
    private static final int MOST_LIMIT = 5000;
    private static final int MOST_INSTRUCTIONS = 100;
    private static final int MOST_FLIPS = 4;
    private static final int PORTS = 4;
    private static final int COPIES = 2;
    private static final int BITS = 64;

    // A and B stand behind the cells in one row, under the numbers that the face gives them.
    private static final int CELLS = 16;
    private static final int A = 16;
    private static final int B = 17;
    private static final int ROW = 18;

    private static final int SET = 0;
    private static final int LOAD = 1;
    private static final int STORE = 2;
    private static final int KEEP = 3;
    private static final int PLUS = 4;
    private static final int MINUS = 5;
    private static final int TIMES = 6;
    private static final int BELOW = 7;
    private static final int SAME = 8;
    private static final int NEGATE = 9;
    private static final int GO = 10;
    private static final int GO_IF_ZERO = 11;
    private static final int TAKE = 12;
    private static final int PUT = 13;
    private static final int END = 14;
    private static final int LOOK_UP = 15;

    private static final int GOES_ON = 0;
    private static final int ENDED = 1;
    private static final int TRAPPED = 2;

    private static final int NOT_LATCHED = 0;
    private static final int BY_TRAP = 1;
    private static final int BY_LIMIT = 2;
    private static final int BY_GATE = 3;

    private final int limit;
    private final Program program = new Program();
    private final Copy first = new Copy(1);
    private final Copy second = new Copy(FACTOR);
    private final FlipPlan plan = new FlipPlan();
    private final int[] given = new int[PORTS];
    private final int[] shown = new int[PORTS];
    private boolean begun = false;
    private int latchedBy = NOT_LATCHED;
    private int emittedCycles = 0;
    private int steps = 0;
    private int flipsDone = 0;

    public TwinGate(int limit) {
        this.limit = Math.max(LEAST_LIMIT, Math.min(MOST_LIMIT, limit));
    }

    public int add(int op, int n) throws IllegalArgumentException, IllegalStateException {
        if (!isInstruction(op, n)) {
            throw new IllegalArgumentException("no such instruction");
        }
        if (begun || program.isFull()) {
            throw new IllegalStateException("no instruction can be added any more");
        }
        program.append(op, n);
        return program.size;
    }

    public boolean give(int port, int v) {
        if (!isPort(port) || !isWithinBound(v)) {
            return false;
        }
        given[port] = v;
        return true;
    }

    public int cycle() {
        if (latchedBy != NOT_LATCHED) {
            return 0;
        }
        begun = true;
        steps = 0;
        latchedBy = runBothCopies();
        plan.forgetAll();
        if (latchedBy != NOT_LATCHED) {
            Arrays.fill(shown, 0);
            return 0;
        }
        emit();
        return 1;
    }

    public boolean flip(int copy, int cell, int bit, int step) {
        if (!isCopy(copy) || !isInRow(cell) || !isBelow(bit, BITS) || step < 0) {
            return false;
        }
        if (latchedBy != NOT_LATCHED || plan.isFull()) {
            return false;
        }
        plan.append(copy, cell, bit, step);
        return true;
    }

    public int output(int port) {
        return isPort(port) ? shown[port] : NONE;
    }

    public long cell(int copy, int cell) throws IndexOutOfBoundsException {
        if (!isCopy(copy) || !isInRow(cell)) {
            throw new IndexOutOfBoundsException("no such cell");
        }
        return copyOf(copy).row[cell];
    }

    public int count(int what) {
        switch (what) {
            case 0:
                return program.size;
            case 1:
                return emittedCycles;
            case 2:
                return latchedBy;
            case 3:
                return steps;
            case 4:
                return plan.size;
            case 5:
                return flipsDone;
            case 6:
                return limit;
            default:
                return NONE;
        }
    }

    private static boolean isBelow(int number, int end) {
        return number >= 0 && number < end;
    }

    private static boolean isPort(int port) {
        return isBelow(port, PORTS);
    }

    private static boolean isCopy(int copy) {
        return isBelow(copy, COPIES);
    }

    private static boolean isInRow(int cell) {
        return isBelow(cell, ROW);
    }

    private static boolean isWithinBound(int v) {
        return v >= -BOUND && v <= BOUND;
    }

    private static boolean isInstruction(int op, int n) {
        switch (op) {
            case SET:
                return isWithinBound(n);
            case LOAD:
            case STORE:
                return isBelow(n, CELLS);
            case GO:
            case GO_IF_ZERO:
                return isBelow(n, MOST_INSTRUCTIONS);
            case TAKE:
            case PUT:
                return isPort(n);
            case KEEP:
            case PLUS:
            case MINUS:
            case TIMES:
            case BELOW:
            case SAME:
            case NEGATE:
            case END:
            case LOOK_UP:
                return true;
            default:
                return false;
        }
    }

    private Copy copyOf(int copy) {
        return copy == 0 ? first : second;
    }

    private int runBothCopies() {
        int why = runToItsEnd(first);
        if (why == NOT_LATCHED) {
            why = runToItsEnd(second);
        }
        if (why == NOT_LATCHED && !copiesAgree()) {
            why = BY_GATE;
        }
        return why;
    }

    private int runToItsEnd(Copy copy) {
        copy.begin();
        for (int done = 0; done < limit; done++) {
            doFlipsAhead();
            steps++;
            int outcome = copy.doStep(program, given);
            if (outcome == ENDED) {
                return NOT_LATCHED;
            }
            if (outcome == TRAPPED) {
                return BY_TRAP;
            }
        }
        return BY_LIMIT;
    }

    private void doFlipsAhead() {
        for (int i = 0; i < plan.size; i++) {
            if (plan.steps[i] == steps) {
                copyOf(plan.copies[i]).row[plan.cells[i]] ^= 1L << plan.bits[i];
                flipsDone++;
            }
        }
    }

    private boolean copiesAgree() {
        for (int port = 0; port < PORTS; port++) {
            long value = first.ports[port];
            if (value != (int) value || value * FACTOR != second.ports[port]) {
                return false;
            }
        }
        return true;
    }

    private void emit() {
        for (int port = 0; port < PORTS; port++) {
            shown[port] = (int) first.ports[port];
        }
        emittedCycles++;
    }

    /** The instructions that both copies do. */
    private static final class Program {
        final int[] ops = new int[MOST_INSTRUCTIONS];
        final int[] numbers = new int[MOST_INSTRUCTIONS];
        int size = 0;

        boolean isFull() {
            return size >= MOST_INSTRUCTIONS;
        }

        void append(int op, int n) {
            ops[size] = op;
            numbers[size] = n;
            size++;
        }
    }

    /** The flips of the next cycle, in the order in which they were planned. */
    private static final class FlipPlan {
        final int[] copies = new int[MOST_FLIPS];
        final int[] cells = new int[MOST_FLIPS];
        final int[] bits = new int[MOST_FLIPS];
        final int[] steps = new int[MOST_FLIPS];
        int size = 0;

        boolean isFull() {
            return size >= MOST_FLIPS;
        }

        void append(int copy, int cell, int bit, int step) {
            copies[size] = copy;
            cells[size] = cell;
            bits[size] = bit;
            steps[size] = step;
            size++;
        }

        void forgetAll() {
            size = 0;
        }
    }

    /** One copy: its cells, A, B, its place and its ports, all values multiplied by its factor. */
    private static final class Copy {
        final long factor;
        final long[] row = new long[ROW];
        final long[] ports = new long[PORTS];
        int place = 0;

        Copy(long factor) {
            this.factor = factor;
        }

        void begin() {
            place = 0;
            row[A] = 0;
            row[B] = 0;
            Arrays.fill(ports, 0);
        }

        int doStep(Program program, int[] given) {
            if (!isBelow(place, program.size)) {
                return TRAPPED;
            }
            int op = program.ops[place];
            int n = program.numbers[place];
            place++;
            switch (op) {
                case PLUS:
                    row[A] = row[A] + row[B];
                    return trapBeyondBound();
                case MINUS:
                    row[A] = row[A] - row[B];
                    return trapBeyondBound();
                case TIMES:
                    return multiply();
                case NEGATE:
                    row[A] = -row[A];
                    return trapBeyondBound();
                case TAKE:
                    row[A] = given[n] * factor;
                    return trapBeyondBound();
                case LOOK_UP:
                    return lookUp();
                case END:
                    return ENDED;
                default:
                    move(op, n);
                    return GOES_ON;
            }
        }

        /** The instructions that can neither trap nor end. */
        private void move(int op, int n) {
            switch (op) {
                case SET:
                    row[A] = n * factor;
                    break;
                case LOAD:
                    row[A] = row[n];
                    break;
                case STORE:
                    row[n] = row[A];
                    break;
                case KEEP:
                    row[B] = row[A];
                    break;
                case BELOW:
                    row[A] = row[A] < row[B] ? factor : 0;
                    break;
                case SAME:
                    row[A] = row[A] == row[B] ? factor : 0;
                    break;
                case GO:
                    place = n;
                    break;
                case GO_IF_ZERO:
                    place = row[A] == 0 ? n : place;
                    break;
                case PUT:
                    ports[n] = row[A];
                    break;
                default:
                    break;
            }
        }

        private int multiply() {
            long product = row[A] * row[B];
            if (isProductBeyond64Bits(row[A], row[B]) || !isMultiple(product)) {
                return TRAPPED;
            }
            row[A] = part(product);
            return trapBeyondBound();
        }

        private int lookUp() {
            if (!isMultiple(row[A])) {
                return TRAPPED;
            }
            long number = part(row[A]);
            if (number < 0 || number >= CELLS) {
                return TRAPPED;
            }
            row[A] = row[(int) number];
            return GOES_ON;
        }

        // Not by the absolute value: that of the lowest long is below 0.
        private int trapBeyondBound() {
            long bound = BOUND * factor;
            return row[A] > bound || row[A] < -bound ? TRAPPED : GOES_ON;
        }

        private boolean isMultiple(long value) {
            return factor != 0 && value % factor == 0;
        }

        private long part(long value) {
            return factor != 0 ? value / factor : 0;
        }

        private static boolean isProductBeyond64Bits(long x, long y) {
            if (x == 0) {
                return false;
            }
            // The one product that goes round and whose division goes round with it.
            if (x == -1) {
                return y == Long.MIN_VALUE;
            }
            return (x * y) / x != y;
        }
    }
}
