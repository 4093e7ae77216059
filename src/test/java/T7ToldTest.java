/** Terms: an instruction that is told. */
final class T7ToldTest {
    public static void main(String[] args) {
        Passage.paragraph("Terms", "When an instruction")
                .sentence("When an instruction of a block is told, it is rows.", T7ToldTest::isRows)
                .end();
    }

    private static void isRows(Due due) {
        for (int block = 0; block < Samples.BUSY_BLOCKS; block++) {
            Counted x = Samples.busy();
            due.is("instruction", x.instruction(block, Rows.SET, 1, 5), 5);
            Samples.blockIs(due, "told", x, block, 0, -1, 5, 0);
            for (int other = 0; other < Samples.BUSY_BLOCKS; other++) {
                due.is("what of block " + other, x.what(other, 0), other == block ? 0 : other);
            }
            due.is("run as it is", x.run(block, 1, 1), 5);
            due.is("ended(1)", x.ended(1), 0);
            due.is("register(1)", x.register(1), 5);
            due.is("make", x.make(block), 28);
            due.is("byte 23, as made", x.byteAt(block, 23), 16);
            due.is("byte 3, as made", x.byteAt(block, 3), 3);
        }
        refusedIsNotTold(due);
    }

    private static void refusedIsNotTold(Due due) {
        for (int block = 0; block < Samples.BUSY_BLOCKS; block++) {
            int told = block;
            due.wrongArgument("instruction that is refused", Samples::busy, x -> x.instruction(told, 8, 0, 0));
        }
        int[][] sixty = Rows.repeated(60, Rows.set(0, 1));
        due.unsupported("the 61st of a waiting one", () -> Samples.withMade(sixty), x -> x.instruction(0, Rows.SET, 0, 0));
        due.unsupported("the 61st of a handed one", () -> Samples.withHanded(sixty), x -> x.instruction(0, Rows.SET, 0, 0));
    }
}
