/** Promise 13: ended. */
final class P13EndedTest {
    public static void main(String[] args) {
        Passage.section("Promise 13: ended")
                .sentence("How the latest run() ended (what 0: 0 at the end, 1 fault, 2 stopped),", P13EndedTest::how)
                .sentence("whether it was by bytes (1: 1, 0).", P13EndedTest::byBytes)
                .sentence("IndexOutOfBoundsException, for another what.", P13EndedTest::anotherWhat)
                .sentence("(0 before.)", P13EndedTest::before)
                .end();
    }

    private static void how(Due due) {
        Counted x = Samples.fresh();
        int block = Samples.block(x, Rows.countdown(0, Rows.div(2, 1)));
        for (int way = 0; way < 3; way++) {
            x.run(block, 2, 0);
            due.is("a fault, ended(0)", x.ended(0), 1);
            x.run(block, 0, 1);
            due.is("stopped, ended(0)", x.ended(0), 2);
            x.run(block, 2, 1);
            due.is("at the end, ended(0)", x.ended(0), 0);
            x.run(block, 0, 1);
            x.run(block, 2, 0);
            due.is("a fault behind one that was stopped, ended(0)", x.ended(0), 1);
            if (way == 0) {
                x.make(block);
            } else {
                x.border();
            }
        }
        staysBehindOtherCalls(due);
    }

    private static void staysBehindOtherCalls(Due due) {
        Counted x = Samples.busy();
        x.same(Samples.IS_HANDED, 2, 1);
        x.same(Samples.IS_HANDED, 0, 1);
        x.border();
        x.next();
        x.instruction(Samples.IS_HANDED, Rows.SET, 0, 0);
        due.is("ended(0)", x.ended(0), 1);
        due.is("ended(1)", x.ended(1), 1);
    }

    private static void byBytes(Due due) {
        Counted x = Samples.busy();
        for (int block = 0; block < Samples.BUSY_BLOCKS; block++) {
            for (int y = 0; y < 2; y++) {
                x.run(block, 2, y);
                due.is("ended(1) of block " + block, x.ended(1), block == Samples.IS_HANDED ? 1 : 0);
                x.run(block, -2, y);
                due.is("ended(1) of block " + block + ", stopped", x.ended(1), block == Samples.IS_HANDED ? 1 : 0);
            }
        }
    }

    private static void anotherWhat(Due due) {
        for (int what : new int[] {-1, 2, 3, 256, Integer.MAX_VALUE, Integer.MIN_VALUE}) {
            due.outOfBounds("ended(" + what + ")", Samples::busy, x -> x.ended(what));
            due.outOfBounds("ended(" + what + ") before a run", Samples::fresh, x -> x.ended(what));
        }
    }

    private static void before(Due due) {
        Counted x = Samples.fresh();
        due.is("ended(0)", x.ended(0), 0);
        due.is("ended(1)", x.ended(1), 0);
        int block = Samples.block(x, Rows.div(0, 2));
        x.make(block);
        x.border();
        x.same(block, 1, 1);
        due.is("ended(0) behind same()", x.ended(0), 0);
        due.is("ended(1) behind same()", x.ended(1), 0);
    }
}
