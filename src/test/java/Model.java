import java.math.BigInteger;
import java.util.ArrayList;
import java.util.List;
import java.util.TreeMap;

/**
 * A second program for the document, written apart from TwinGate: numbers of any size that are
 * brought round to 64 bits where the document says so, and nothing that is quick.
 */
final class Model {
    private static final BigInteger FACTOR = BigInteger.valueOf(58659);
    private static final BigInteger BOUND = BigInteger.valueOf(2000000000);
    private static final BigInteger ROUND = BigInteger.ONE.shiftLeft(64);
    private static final String CELL_OPS = "1 2";
    private static final String PLACE_OPS = "10 11";
    private static final String PORT_OPS = "12 13";

    private final int limit;
    private final List<int[]> instructions = new ArrayList<>();
    private final List<int[]> planned = new ArrayList<>();
    private final List<TreeMap<Integer, BigInteger>> cells = List.of(new TreeMap<>(), new TreeMap<>());
    private final List<TreeMap<Integer, BigInteger>> puts = List.of(new TreeMap<>(), new TreeMap<>());
    private final TreeMap<Integer, Integer> given = new TreeMap<>();
    private TreeMap<Integer, BigInteger> emitted = new TreeMap<>();
    private int cycles = 0;
    private int emittedCycles = 0;
    private int why = 0;
    private int steps = 0;
    private int flips = 0;

    Model(int limit) {
        this.limit = limit < 1 ? 1 : limit > 5000 ? 5000 : limit;
    }

    private static boolean isOneOf(String ops, int op) {
        return List.of(ops.split(" ")).contains(String.valueOf(op));
    }

    private static boolean isBeyond(BigInteger value, BigInteger bound) {
        return value.abs().compareTo(bound) > 0;
    }

    private static BigInteger round(BigInteger value) {
        BigInteger low = value.mod(ROUND);
        return low.testBit(63) ? low.subtract(ROUND) : low;
    }

    String add(int op, int n) {
        boolean wrong = op < 0 || op > 15
            || isOneOf(CELL_OPS, op) && (n < 0 || n > 15)
            || isOneOf(PLACE_OPS, op) && (n < 0 || n > 99)
            || isOneOf(PORT_OPS, op) && (n < 0 || n > 3)
            || op == 0 && isBeyond(BigInteger.valueOf(n), BOUND);
        if (wrong) {
            return "IllegalArgumentException";
        }
        if (instructions.size() == 100 || cycles > 0) {
            return "IllegalStateException";
        }
        instructions.add(new int[] {op, n});
        return String.valueOf(instructions.size());
    }

    boolean give(int port, int v) {
        if (port < 0 || port > 3 || isBeyond(BigInteger.valueOf(v), BOUND)) {
            return false;
        }
        given.put(port, v);
        return true;
    }

    boolean flip(int copy, int cell, int bit, int step) {
        boolean isThere = (copy == 0 || copy == 1) && cell >= 0 && cell <= 17 && bit >= 0 && bit <= 63 && step >= 0;
        if (!isThere || why != 0 || planned.size() == 4) {
            return false;
        }
        planned.add(new int[] {copy, cell, bit, step});
        return true;
    }

    int output(int port) {
        if (port < 0 || port > 3) {
            return -1;
        }
        return why != 0 ? 0 : emitted.getOrDefault(port, BigInteger.ZERO).intValueExact();
    }

    String cell(int copy, int cell) {
        if (copy < 0 || copy > 1 || cell < 0 || cell > 17) {
            return "IndexOutOfBoundsException";
        }
        return read(copy, cell).toString();
    }

    int count(int what) {
        int[] counts = {instructions.size(), emittedCycles, why, steps, planned.size(), flips, limit};
        return what >= 0 && what < counts.length ? counts[what] : -1;
    }

    int cycle() {
        if (why != 0) {
            return 0;
        }
        cycles++;
        steps = 0;
        for (int copy = 0; copy < 2 && why == 0; copy++) {
            why = run(copy);
        }
        planned.clear();
        if (why == 0 && !doPortsAgree()) {
            why = 3;
        }
        if (why == 0) {
            emitted = new TreeMap<>(puts.get(0));
            emittedCycles++;
        }
        return why == 0 ? 1 : 0;
    }

    private boolean doPortsAgree() {
        for (int port = 0; port < 4; port++) {
            BigInteger one = puts.get(0).getOrDefault(port, BigInteger.ZERO);
            BigInteger two = puts.get(1).getOrDefault(port, BigInteger.ZERO);
            if (one.bitLength() > 31 || !round(one.multiply(FACTOR)).equals(two)) {
                return false;
            }
        }
        return true;
    }

    private BigInteger read(int copy, int cell) {
        return cells.get(copy).getOrDefault(cell, BigInteger.ZERO);
    }

    private void write(int copy, int cell, BigInteger value) {
        cells.get(copy).put(cell, round(value));
    }

    private int run(int copy) {
        cells.get(copy).remove(16);
        cells.get(copy).remove(17);
        puts.get(copy).clear();
        int place = 0;
        int own = 0;
        while (own < limit) {
            for (int[] flip : planned) {
                if (flip[3] == steps) {
                    BigInteger bits = read(flip[0], flip[1]).mod(ROUND);
                    write(flip[0], flip[1], bits.flipBit(flip[2]));
                    flips++;
                }
            }
            own++;
            steps++;
            if (place >= instructions.size()) {
                return 1;
            }
            int[] instruction = instructions.get(place);
            if (instruction[0] == 14) {
                return 0;
            }
            place = step(copy, place, instruction[0], instruction[1]);
            if (place < 0) {
                return 1;
            }
        }
        return 2;
    }

    /** The next place, or -1 for a trap. */
    private int step(int copy, int place, int op, int n) {
        BigInteger factor = copy == 0 ? BigInteger.ONE : FACTOR;
        BigInteger a = read(copy, 16);
        BigInteger b = read(copy, 17);
        BigInteger next = a;
        if (op == 0) {
            next = factor.multiply(BigInteger.valueOf(n));
        } else if (op == 1) {
            next = read(copy, n);
        } else if (op == 2) {
            write(copy, n, a);
        } else if (op == 3) {
            write(copy, 17, a);
        } else if (op == 4) {
            next = a.add(b);
        } else if (op == 5) {
            next = a.subtract(b);
        } else if (op == 6) {
            BigInteger product = a.multiply(b);
            if (product.bitLength() > 63 || product.mod(factor).signum() != 0) {
                return -1;
            }
            next = product.divide(factor);
        } else if (op == 7) {
            next = a.compareTo(b) < 0 ? factor : BigInteger.ZERO;
        } else if (op == 8) {
            next = a.equals(b) ? factor : BigInteger.ZERO;
        } else if (op == 9) {
            next = a.negate();
        } else if (op == 12) {
            next = factor.multiply(BigInteger.valueOf(given.getOrDefault(n, 0)));
        } else if (op == 13) {
            puts.get(copy).put(n, a);
        } else if (op == 15) {
            BigInteger[] parts = a.divideAndRemainder(factor);
            if (parts[1].signum() != 0 || parts[0].signum() < 0 || parts[0].bitLength() > 4) {
                return -1;
            }
            next = read(copy, parts[0].intValueExact());
        }
        write(copy, 16, next);
        boolean isBounded = op == 4 || op == 5 || op == 6 || op == 9 || op == 12;
        if (isBounded && isBeyond(read(copy, 16), BOUND.multiply(factor))) {
            return -1;
        }
        return op == 10 || op == 11 && a.signum() == 0 ? n : place + 1;
    }
}
