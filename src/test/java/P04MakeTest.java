/** Promise 4: make. */
final class P04MakeTest {
    public static void main(String[] args) {
        Passage.section("Promise 4: make")
                .sentence("Makes a block's bytes", P04MakeTest::makesBytes)
                .sentence("(it waits then):", P04MakeTest::itWaits)
                .sentence("how many;", P04MakeTest::howMany)
                .sentence("NONE, when it can not be made", P04MakeTest::canNotBeMade)
                .sentence("(it is rows then).", P04MakeTest::itIsRows)
                .end();
    }

    private static void makesBytes(Due due) {
        Counted x = Samples.withMade(Rows.countdown(0));
        int[] want = Codes.of("PUSH1 255, STORE 3, LOAD 0, LOAD 3, ADD, STORE 0, LOAD 0, BRANCH 0 4, END");
        Samples.bytesAre(due, x, 0, want);
        x.alter(0, 0, 99);
        x.alter(0, 16, 0);
        x.make(0);
        Samples.bytesAre(due, x, 0, want);
        x.instruction(0, Rows.MOVE, 1, 2);
        x.make(0);
        Samples.bytesAre(due, x, 0,
                Codes.of("PUSH1 255, STORE 3, LOAD 0, LOAD 3, ADD, STORE 0, LOAD 0, BRANCH 0 4, LOAD 2, STORE 1, END"));
    }

    private static void itWaits(Due due) {
        Counted x = Samples.busy();
        for (int block = 0; block < Samples.BUSY_BLOCKS; block++) {
            due.is("make of block " + block, x.make(block), 24);
            Samples.blockIs(due, "made", x, block, 1, 1, 4, 24);
        }
        due.is("count(4)", x.count(4), 3);
        x.next();
        x.make(Samples.WAITS);
        Samples.blockIs(due, "made anew in the next generation", x, Samples.WAITS, 1, 2, 4, 24);
        Samples.blockIs(due, "the others are as they were", x, Samples.IS_ROWS, 1, 1, 4, 24);
    }

    private static void howMany(Due due) {
        int[] sizes = {4, 7, 7, 7, 7, 7, 5, 4};
        for (int op = Rows.SET; op <= Rows.MOVE; op++) {
            for (int times = 0; times <= 40; times += 8) {
                Counted x = Samples.fresh();
                int block = Samples.block(x, Rows.repeated(times, Rows.row(op, 0, 1)));
                due.is("make of " + times + " of op " + op, x.make(block), times * sizes[op] + 1);
                due.is("what(0, 3)", x.what(block, 3), times * sizes[op] + 1);
            }
        }
        Counted x = Samples.fresh();
        due.is("make of 300 bytes", x.make(Samples.block(x, Rows.longest())), 300);
    }

    private static void canNotBeMade(Due due) {
        Counted x = Samples.fresh();
        due.is("make of 301 bytes", x.make(Samples.block(x, Rows.tooLong())), MadeRunners.NONE);
        Counted y = Samples.fresh();
        due.is("make of 421 bytes", y.make(Samples.block(y, Rows.repeated(60, Rows.add(0, 1)))), MadeRunners.NONE);
        due.is("make again", y.make(0), MadeRunners.NONE);
    }

    private static void itIsRows(Due due) {
        Counted x = Samples.fresh();
        int block = Samples.block(x, Rows.longest());
        int other = Samples.countdown(x);
        x.make(other);
        x.make(block);
        x.border();
        x.instruction(block, Rows.MOVE, 0, 0);
        due.is("make of 304 bytes", x.make(block), MadeRunners.NONE);
        Samples.blockIs(due, "304 bytes", x, block, 0, -1, 44, 0);
        Samples.blockIs(due, "the other one", x, other, 2, 0, 3, 17);
        due.is("run as it is", x.run(block, 1, 1), 44);
        due.is("ended(1)", x.ended(1), 0);
        due.is("border()", x.border(), 0);
        due.is("next(): one alone became rows", x.next(), 1);
        due.wrongState("byteAt(0, 0) of 301 bytes", Samples::tooLong, y -> y.byteAt(0, 0));
    }
}
