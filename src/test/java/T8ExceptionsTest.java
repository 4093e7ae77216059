import java.util.function.Supplier;

/** Terms: which exception is thrown. */
final class T8ExceptionsTest {
    public static void main(String[] args) {
        Passage.paragraph("Terms", "Of several exceptions")
                .sentence("Of several exceptions the first one told is thrown.", T8ExceptionsTest::firstOneTold)
                .sentence("For all calls with a block: IndexOutOfBoundsException (first), when there is none.",
                        T8ExceptionsTest::noBlock)
                .end();
    }

    private static Counted sixty() {
        return Samples.withMade(Rows.repeated(60, Rows.set(0, 1)));
    }

    private static void firstOneTold(Due due) {
        // IllegalArgumentException stands before UnsupportedOperationException.
        due.wrongArgument("no such op, and sixty", T8ExceptionsTest::sixty, x -> x.instruction(0, 8, 0, 0));
        due.wrongArgument("no register a, and sixty", T8ExceptionsTest::sixty, x -> x.instruction(0, Rows.ADD, 4, 0));
        due.wrongArgument("no register b, and sixty", T8ExceptionsTest::sixty, x -> x.instruction(0, Rows.ADD, 0, 4));
        due.wrongArgument("JUMP to 61, and sixty", T8ExceptionsTest::sixty, x -> x.instruction(0, Rows.JUMP, 0, 61));
        due.unsupported("sixty alone", T8ExceptionsTest::sixty, x -> x.instruction(0, Rows.JUMP, 0, 60));
        // IllegalStateException stands before IllegalArgumentException.
        due.wrongState("rows, and no byte -1", Samples::busy, x -> x.byteAt(Samples.IS_ROWS, -1));
        due.wrongState("rows, and no byte 300", Samples::busy, x -> x.byteAt(Samples.IS_ROWS, 300));
        due.wrongState("rows, and no byte -1", Samples::busy, x -> x.alter(Samples.IS_ROWS, -1, 0));
        due.wrongState("rows, and 256", Samples::busy, x -> x.alter(Samples.IS_ROWS, 0, 256));
        due.wrongState("handed, and no byte 99", Samples::busy, x -> x.alter(Samples.IS_HANDED, 99, 0));
        due.wrongState("handed, and -1", Samples::busy, x -> x.alter(Samples.IS_HANDED, 0, -1));
        due.wrongState("handed, no byte -1, and 256", Samples::busy, x -> x.alter(Samples.IS_HANDED, -1, 256));
    }

    private static void noBlock(Due due) {
        for (int block : new int[] {-1, Samples.BUSY_BLOCKS, 23, 24, 1 << 16, Integer.MAX_VALUE, Integer.MIN_VALUE}) {
            outOfBounds(due, Samples::busy, block);
        }
        outOfBounds(due, Samples::fresh, 0);
        outOfBounds(due, Samples::fresh, -1);
        outOfBounds(due, Samples::full, 24);
    }

    /** With arguments that are right otherwise, and with some for which another exception would be due. */
    private static void outOfBounds(Due due, Supplier<Counted> made, int block) {
        due.outOfBounds("instruction(" + block + ", SET)", made, x -> x.instruction(block, Rows.SET, 0, 0));
        due.outOfBounds("instruction(" + block + ", 8)", made, x -> x.instruction(block, 8, 4, 4));
        due.outOfBounds("make(" + block + ")", made, x -> x.make(block));
        due.outOfBounds("byteAt(" + block + ", 0)", made, x -> x.byteAt(block, 0));
        due.outOfBounds("byteAt(" + block + ", -1)", made, x -> x.byteAt(block, -1));
        due.outOfBounds("alter(" + block + ", 0, 0)", made, x -> x.alter(block, 0, 0));
        due.outOfBounds("alter(" + block + ", -1, 256)", made, x -> x.alter(block, -1, 256));
        due.outOfBounds("check(" + block + ")", made, x -> x.check(block));
        due.outOfBounds("what(" + block + ", 0)", made, x -> x.what(block, 0));
        due.outOfBounds("what(" + block + ", 4)", made, x -> x.what(block, 4));
        due.outOfBounds("run(" + block + ", 1, 1)", made, x -> x.run(block, 1, 1));
        due.outOfBounds("same(" + block + ", 1, 1)", made, x -> x.same(block, 1, 1));
    }
}
