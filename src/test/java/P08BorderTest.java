/** Promise 8: border. What it does to each kind of block stands in T6BordersTest. */
final class P08BorderTest {
    public static void main(String[] args) {
        Passage.section("Promise 8: border")
                .sentence("A border: how many were handed over.", P08BorderTest::howMany)
                .end();
    }

    private static void howMany(Due due) {
        due.is("border() of no block", Samples.fresh().border(), 0);
        for (int waiting = 0; waiting <= 24; waiting += 6) {
            for (int wrong = 0; wrong <= waiting; wrong += 6) {
                Counted x = Samples.fresh();
                Samples.blocks(x, 24);
                for (int i = 0; i < waiting; i++) {
                    x.make(i);
                }
                for (int i = 0; i < wrong; i++) {
                    x.alter(i, 0, 0);
                }
                String call = "border(), " + waiting + " wait, " + wrong + " of them are not right";
                due.is(call, x.border(), waiting - wrong);
                Samples.countsAre(due, call, x, 24, 0, 0, waiting - wrong, 0, wrong, 0, 0, 1);
                due.is(call + ", another one behind it", x.border(), 0);
            }
        }
        leavesTheRest(due);
    }

    /** Rows and handed ones stay what they are, and so does what the latest run left. */
    private static void leavesTheRest(Due due) {
        Counted x = Samples.busy();
        due.is("border() of a busy object", x.border(), 1);
        Samples.blockIs(due, "rows", x, Samples.IS_ROWS, 0, -1, 4, 0);
        Samples.blockIs(due, "handed now", x, Samples.WAITS, 2, 1, 4, 24);
        Samples.blockIs(due, "handed before", x, Samples.IS_HANDED, 2, 1, 4, 24);
        Samples.countsAre(due, "a busy object", x, 3, 1, 0, 2, 0, 1, 1, 7, 2);
        Samples.registersAre(due, "the latest run", x, 0, 0, 0, -1);
        due.is("ended(0)", x.ended(0), 1);
        due.is("ended(1)", x.ended(1), 1);
    }
}
