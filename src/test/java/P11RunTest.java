/** Promise 11: run. What a run does stands in T1BlocksTest, T2RunTest and T5RunByBytesTest. */
final class P11RunTest {
    public static void main(String[] args) {
        Passage.section("Promise 11: run")
                .sentence("Runs a block: steps.", P11RunTest::steps)
                .end();
    }

    private static void steps(Due due) {
        Trial.of().given(1, 2).ends(due, 0, 1, 2, 0, 0);
        Trial.of(Rows.div(0, 2)).given(1, 2).faults(due, 0, 1, 2, 0, 0);
        Trial.of(Rows.countdown(0)).given(6, 0).ends(due, 13, 0, 0, 0, -1);
        Trial.of(Rows.countdown(0)).given(-6, 0).stops(due, -1006, 0, 0, -1);
        Trial.of(Rows.countdown(0)).given(999, 0).ends(due, 1999, 0, 0, 0, -1);
        leavesTheBlock(due);
        due.outOfBounds("run of no block", Samples::busy, x -> x.run(Samples.BUSY_BLOCKS, 1, 1));
    }

    private static void leavesTheBlock(Due due) {
        for (int block = 0; block < Samples.BUSY_BLOCKS; block++) {
            Counted x = Samples.busy();
            int first = x.run(block, 3, 1);
            due.is("run again", x.run(block, 3, 1), first);
            due.is("what(" + block + ", 0)", x.what(block, 0), block);
            due.is("what(" + block + ", 2)", x.what(block, 2), 4);
            due.is("count(6)", x.count(6), 3);
            due.is("count(7)", x.count(7), 7 + 2 * first);
        }
    }
}
