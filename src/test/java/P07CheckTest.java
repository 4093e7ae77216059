/** Promise 7: check. What is told of which bytes stands in T4CheckedTest. */
final class P07CheckTest {
    public static void main(String[] args) {
        Passage.section("Promise 7: check")
                .sentence("Checks a block's bytes: 0, or what tells it.", P07CheckTest::whatTellsIt)
                .sentence("IllegalStateException, when it is rows.", P07CheckTest::rows)
                .end();
    }

    private static void whatTellsIt(Due due) {
        Counted x = Samples.busy();
        due.is("check of a waiting one", x.check(Samples.WAITS), 0);
        due.is("check of a handed one", x.check(Samples.IS_HANDED), 0);
        x.alter(Samples.WAITS, 0, 99);
        due.is("check of a wrong one", x.check(Samples.WAITS), 1);
        due.is("check of it again", x.check(Samples.WAITS), 1);
        Samples.blockIs(due, "it waits still", x, Samples.WAITS, 1, 1, 4, 24);
        due.is("count(5): only borders count", x.count(5), 1);
        x.alter(Samples.WAITS, 0, 16);
        x.alter(Samples.WAITS, 15, 5);
        due.is("check of a wrong branch", x.check(Samples.WAITS), 14);
        due.is("check of another block", x.check(Samples.IS_HANDED), 0);
        x.alter(Samples.WAITS, 15, 4);
        due.is("check, all is right again", x.check(Samples.WAITS), 0);
        due.is("check of END alone", Samples.withMade().check(0), 0);
        due.is("check of 300 bytes", Samples.longest().check(0), 0);
        checkedInTurn(due);
    }

    /** A long block before a short one: nothing of the first check is left in the second. */
    private static void checkedInTurn(Due due) {
        Counted x = Samples.withMade(Rows.repeated(20, Rows.move(0, 1)));
        int block = Samples.waiting(x, Codes.of("LOAD 0, BRANCH 0 8, END"));
        due.is("check of 81 bytes", x.check(0), 0);
        due.is("check of a branch to where the other one has a code", x.check(block), 3);
        x.border();
        due.is("count(3)", x.count(3), 1);
    }

    private static void rows(Due due) {
        Samples.rowsInAnyWay().forEach((kind, made) -> due.wrongState("check of " + kind, made, x -> x.check(0)));
    }
}
