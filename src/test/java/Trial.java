import java.util.Arrays;

/** Runs of one block: of rows in every way that a block can be run, or of bytes that rows may not have. */
final class Trial {
    private final int[][] rows;
    private final int[] bytes;
    private final long x;
    private final long y;

    private Trial(int[][] rows, int[] bytes, long x, long y) {
        this.rows = rows;
        this.bytes = bytes;
        this.x = x;
        this.y = y;
    }

    /** As rows, as rows while it waits, and by bytes when it is handed: all of these must leave the same. */
    static Trial of(int[]... rows) {
        return new Trial(rows, null, 0, 0);
    }

    /** By bytes alone. */
    static Trial bytes(String codes) {
        return new Trial(null, Codes.of(codes), 0, 0);
    }

    Trial given(long x0, long y0) {
        return new Trial(rows, bytes, x0, y0);
    }

    void ends(Due due, int steps, long... registers) {
        leaves(due, 0, steps, registers);
    }

    void faults(Due due, int steps, long... registers) {
        leaves(due, 1, steps, registers);
    }

    /** A run that is stopped has done 2000 steps. */
    void stops(Due due, long... registers) {
        leaves(due, 2, 2000, registers);
    }

    private void leaves(Due due, int ending, int steps, long... registers) {
        Counted object = Samples.fresh();
        if (rows == null) {
            int block = Samples.waiting(object, bytes);
            due.is("border() with " + Arrays.toString(bytes), object.border(), 1);
            runs(due, "by bytes " + Arrays.toString(bytes), object, block, ending, 1, steps, registers);
            return;
        }
        String name = Arrays.deepToString(rows);
        int block = Samples.block(object, rows);
        runs(due, "rows " + name, object, block, ending, 0, steps, registers);
        int size = object.make(block);
        runs(due, "waiting " + name, object, block, ending, 0, steps, registers);
        due.is("border() with " + name, object.border(), size < 0 ? 0 : 1);
        runs(due, "handed " + name, object, block, ending, size < 0 ? 0 : 1, steps, registers);
    }

    private void runs(Due due, String name, Counted object, int block, int ending, int byBytes, int steps, long... registers) {
        String when = name + ", run(" + x + ", " + y + ")";
        due.is(when, object.run(block, x, y), steps);
        due.is(when + ", ended(0)", object.ended(0), ending);
        due.is(when + ", ended(1)", object.ended(1), byBytes);
        Samples.registersAre(due, when, object, registers);
    }
}
