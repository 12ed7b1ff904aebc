/**
 * A gate whose cells can be made any 64 bits: quiet cycles, in which nothing but flips is done,
 * turn them bit by bit. The body of the program runs in the cycle that run() asks for.
 *
 * <p>The body begins at place 2 and has an end behind it; port 3 tells whether it is run.
 */
final class Wide {
    static final int FIRST_PLACE = 2;
    /** The steps ahead of the body, and the end behind it. */
    static final int STEPS_BESIDE = 3;
    private static final int MODE_PORT = 3;

    final TwinGate gate;

    Wide(int limit, int... body) {
        gate = new TwinGate(limit);
        gate.add(12, MODE_PORT);
        gate.add(11, FIRST_PLACE + body.length / 2);
        for (int i = 0; i + 1 < body.length; i += 2) {
            gate.add(body[i], body[i + 1]);
        }
        gate.add(14, 0);
    }

    /** Flips ahead of the next quiet cycle, and as many cycles as four flips each ask for. */
    Wide hold(int copy, int cell, long value) {
        long wrong = gate.cell(copy, cell) ^ value;
        for (int bit = 0; bit < 64; bit++) {
            if ((wrong >>> bit & 1) == 1 && !gate.flip(copy, cell, bit, 0)) {
                gate.cycle();
                gate.flip(copy, cell, bit, 0);
            }
        }
        gate.cycle();
        return this;
    }

    int run() {
        gate.give(MODE_PORT, 1);
        return gate.cycle();
    }
}
