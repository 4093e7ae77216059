/** Terms: the constant. */
final class T9ConstantsTest {
    public static void main(String[] args) {
        Passage.paragraph("Terms", "The constants")
                .sentence("The constants: `NONE = -1`: Nothing there.", T9ConstantsTest::none)
                .end();
    }

    private static void none(Due due) {
        due.is("NONE", MadeRunners.NONE, -1);
        Counted x = Samples.fresh();
        int block = Samples.block(x, Rows.tooLong());
        due.is("make of 301 bytes", x.make(block), MadeRunners.NONE);
        due.is("the generation of rows", x.what(block, 1), MadeRunners.NONE);
        due.is("count(9)", x.count(9), MadeRunners.NONE);
    }
}
