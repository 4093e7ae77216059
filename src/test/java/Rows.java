/** Instructions as the document names them: op, a, b. */
final class Rows {
    static final int SET = 0;
    static final int ADD = 1;
    static final int SUB = 2;
    static final int MUL = 3;
    static final int DIV = 4;
    static final int LESS = 5;
    static final int JUMP = 6;
    static final int MOVE = 7;

    private Rows() {
    }

    static int[] row(int op, int a, int b) {
        return new int[] {op, a, b};
    }

    static int[] set(int a, int number) {
        return row(SET, a, number);
    }

    static int[] add(int a, int b) {
        return row(ADD, a, b);
    }

    static int[] sub(int a, int b) {
        return row(SUB, a, b);
    }

    static int[] mul(int a, int b) {
        return row(MUL, a, b);
    }

    static int[] div(int a, int b) {
        return row(DIV, a, b);
    }

    static int[] less(int a, int b) {
        return row(LESS, a, b);
    }

    static int[] jump(int a, int goal) {
        return row(JUMP, a, goal);
    }

    static int[] move(int a, int b) {
        return row(MOVE, a, b);
    }

    /** The same instruction so many times, and others behind it. */
    static int[][] repeated(int times, int[] row, int[]... behind) {
        int[][] rows = new int[times + behind.length][];
        for (int i = 0; i < rows.length; i++) {
            rows[i] = i < times ? row : behind[i - times];
        }
        return rows;
    }

    /**
     * Counts register 0 down to 0 by register 3, which is -1: 1 step, one for each idle row, two for each that
     * it counts, and then what stands behind it.
     */
    static int[][] countdown(int idle, int[]... behind) {
        int[][] rows = new int[3 + idle + behind.length][];
        rows[0] = set(3, -1);
        for (int i = 1; i <= idle; i++) {
            rows[i] = move(2, 2);
        }
        rows[idle + 1] = add(0, 3);
        rows[idle + 2] = jump(0, idle + 1);
        System.arraycopy(behind, 0, rows, idle + 3, behind.length);
        return rows;
    }

    /** 300 bytes. */
    static int[][] longest() {
        return repeated(42, add(0, 1), jump(2, 42));
    }

    /** 301 bytes. */
    static int[][] tooLong() {
        return repeated(40, add(0, 1), move(0, 1), move(0, 1), move(0, 1), move(0, 1), move(0, 1));
    }
}
