/** Promise 2: block. */
final class P02BlockTest {
    public static void main(String[] args) {
        Passage.section("Promise 2: block")
                .sentence("A block more: its number.", P02BlockTest::itsNumber)
                .sentence("UnsupportedOperationException, when there are twenty-four.", P02BlockTest::twentyFour)
                .end();
    }

    private static void itsNumber(Due due) {
        Counted x = Samples.fresh();
        for (int i = 0; i < 24; i++) {
            due.is("block()", x.block(), i);
            due.is("count(0)", x.count(0), i + 1);
            Samples.blockIs(due, "a new block", x, i, 0, -1, 0, 0);
            due.is("instruction of block " + i, x.instruction(i, Rows.SET, 0, 1), 1);
        }
        // Blocks that others are made and dropped before have their numbers just the same.
        Counted busy = Samples.busy();
        due.is("block() of a busy object", busy.block(), Samples.BUSY_BLOCKS);
        due.is("what(0, 2)", busy.what(0, 2), 4);
    }

    private static void twentyFour(Due due) {
        due.unsupported("the 25th block()", Samples::full, x -> x.block());
        Counted x = Samples.fresh();
        Samples.blocks(x, 23);
        due.is("the 24th block()", x.block(), 23);
        due.unsupported("the 25th block() again and again", P02BlockTest::refusedTwice, y -> y.block());
    }

    private static Counted refusedTwice() {
        Counted x = Samples.full();
        for (int i = 0; i < 2; i++) {
            try {
                x.block();
            } catch (UnsupportedOperationException e) {
                continue;
            }
        }
        return x;
    }
}
