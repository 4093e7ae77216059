/** Promise 12: register. */
final class P12RegisterTest {
    public static void main(String[] args) {
        Passage.section("Promise 12: register")
                .sentence("A register behind the latest run()", P12RegisterTest::behindTheLatest)
                .sentence("(0 before).", P12RegisterTest::before)
                .sentence("IndexOutOfBoundsException, when there is none.", P12RegisterTest::noRegister)
                .end();
    }

    private static void behindTheLatest(Due due) {
        Counted x = Samples.fresh();
        int block = Samples.block(x, Rows.set(2, 7), Rows.move(3, 1));
        int none = x.block();
        x.run(block, Long.MAX_VALUE, Long.MIN_VALUE);
        Samples.registersAre(due, "behind a run", x, Long.MAX_VALUE, Long.MIN_VALUE, 7, Long.MIN_VALUE);
        Samples.registersAre(due, "asked again", x, Long.MAX_VALUE, Long.MIN_VALUE, 7, Long.MIN_VALUE);
        x.run(none, 1, 2);
        Samples.registersAre(due, "behind a run of nothing", x, 1, 2, 0, 0);
        x.make(block);
        x.border();
        Samples.registersAre(due, "behind a border", x, 1, 2, 0, 0);
        x.run(block, 3, 4);
        Samples.registersAre(due, "behind a run by bytes", x, 3, 4, 7, 4);
        x.same(block, 8, 9);
        x.check(block);
        x.instruction(block, Rows.SET, 0, 0);
        x.next();
        Samples.registersAre(due, "behind other calls", x, 3, 4, 7, 4);
    }

    private static void before(Due due) {
        Counted x = Samples.fresh();
        Samples.registersAre(due, "new", x, 0, 0, 0, 0);
        int block = Samples.block(x, Rows.set(2, 7));
        x.make(block);
        x.same(block, 8, 9);
        x.border();
        x.same(block, 8, 9);
        Samples.registersAre(due, "before the first run", x, 0, 0, 0, 0);
    }

    private static void noRegister(Due due) {
        for (int r : new int[] {-1, 4, 5, 256, Integer.MAX_VALUE, Integer.MIN_VALUE}) {
            due.outOfBounds("register(" + r + ")", Samples::busy, x -> x.register(r));
            due.outOfBounds("register(" + r + ") before a run", Samples::fresh, x -> x.register(r));
        }
        due.is("register(3), the last one", Samples.busy().register(3), -1);
    }
}
