/** Blocks that several tests use. */
final class Samples {
    static final int SET = 0;
    static final int ADD = 1;
    static final int SUB = 2;
    static final int MUL = 3;
    static final int DIV = 4;
    static final int LESS = 5;
    static final int JUMP = 6;
    static final int MOVE = 7;

    private Samples() {
    }

    static int[] row(int op, int a, int b) {
        return new int[] {op, a, b};
    }

    static int block(MadeRunners x, int[]... rows) {
        int number = x.block();
        for (int[] row : rows) {
            x.instruction(number, row[0], row[1], row[2]);
        }
        return number;
    }

    static void repeat(MadeRunners x, int block, int times, int[] row) {
        for (int i = 0; i < times; i++) {
            x.instruction(block, row[0], row[1], row[2]);
        }
    }

    /** Counts register 0 down to 0: 1 and two steps for each that it counts. */
    static int countdown(MadeRunners x) {
        return block(x, row(SET, 3, -1), row(ADD, 0, 3), row(JUMP, 0, 1));
    }

    /** A block of 301 bytes, which can not be made. */
    static int tooLong(MadeRunners x) {
        int number = x.block();
        repeat(x, number, 40, row(ADD, 0, 1));
        repeat(x, number, 5, row(MOVE, 0, 1));
        return number;
    }

    /** A block of 300 bytes. */
    static int longest(MadeRunners x) {
        int number = x.block();
        repeat(x, number, 42, row(ADD, 0, 1));
        repeat(x, number, 1, row(JUMP, 2, 42));
        return number;
    }

    /** Makes the bytes of a block anew, and lets others stand there, as far as they go. */
    static void overwrite(MadeRunners x, int block, int... bytes) {
        x.make(block);
        for (int i = 0; i < bytes.length; i++) {
            x.alter(block, i, bytes[i]);
        }
    }

    /** A waiting block whose bytes are these and no others; the rows behind them are of no use. */
    static int waiting(MadeRunners x, int... bytes) {
        int number = x.block();
        int left = bytes.length - 1;
        if (left == 7 || left == 11) {
            x.instruction(number, ADD, 0, 0);
            left -= 7;
        }
        while (left % 4 != 0 && left >= 5) {
            x.instruction(number, JUMP, 0, 0);
            left -= 5;
        }
        repeat(x, number, left / 4, row(MOVE, 0, 0));
        if (x.make(number) != bytes.length) {
            throw new IllegalStateException("no rows have " + bytes.length + " bytes");
        }
        overwrite(x, number, bytes);
        return number;
    }

    static void bytesAre(Due due, MadeRunners x, int block, int... want) {
        due.is("what(" + block + ", 3)", x.what(block, 3), want.length);
        for (int i = 0; i < want.length; i++) {
            due.is("byteAt(" + block + ", " + i + ")", x.byteAt(block, i), want[i]);
        }
    }

    static void registersAre(Due due, String when, MadeRunners x, long... want) {
        for (int r = 0; r < 4; r++) {
            due.is(when + " register(" + r + ")", x.register(r), want[r]);
        }
    }
}
