/** Promise 10: next. Which generation goes when stands in T6BordersTest. */
final class P10NextTest {
    public static void main(String[] args) {
        Passage.section("Promise 10: next")
                .sentence("A new generation:", P10NextTest::newGeneration)
                .sentence("how many blocks became rows.", P10NextTest::howMany)
                .end();
    }

    private static void newGeneration(Due due) {
        Counted x = new Counted(3);
        for (int now = 1; now <= 100; now++) {
            due.is("next()", x.next(), 0);
            due.is("count(1)", x.count(1), now);
            due.is("count(2)", x.count(2), now < 3 ? 0 : now - 2);
        }
    }

    private static void howMany(Due due) {
        together(due);
        madeAnew(due);
        full(due);
        leavesTheRest(due);
        due.is("next() of no block", Samples.fresh().next(), 0);
    }

    private static void together(Due due) {
        Counted x = new Counted(1);
        Samples.blocks(x, 24);
        due.is("next() with 24 that are rows", x.next(), 0);
        for (int i = 0; i < 24; i++) {
            x.make(i);
            if (i == 10) {
                x.border();
            }
        }
        x.instruction(3, Rows.SET, 0, 0);
        x.alter(20, 0, 0);
        due.is("next(), 10 handed ones, 13 waiting ones and rows", x.next(), 23);
        Samples.countsAre(due, "all are dropped", x, 24, 2, 2, 0, 0, 0, 0, 0, 1);
        due.is("next() again", x.next(), 0);
    }

    /** Made anew, a block goes with its later generation alone. */
    private static void madeAnew(Due due) {
        Counted x = new Counted(2);
        Samples.countdown(x);
        x.make(0);
        x.next();
        x.make(0);
        due.is("next(), the earlier generation goes", x.next(), 0);
        due.is("next(), the later generation goes", x.next(), 1);
        due.is("what(0, 2)", x.what(0, 2), 3);
        due.is("run", x.run(0, 2, 0), 5);
        due.is("ended(1)", x.ended(1), 0);
    }

    /** G generations with three blocks each are all that there can be with G 8. */
    private static void full(Due due) {
        Counted x = new Counted(8);
        for (int now = 0; now < 8; now++) {
            for (int i = 0; i < 3; i++) {
                x.make(x.block());
            }
            due.is("next() in " + now, x.next(), now < 7 ? 0 : 3);
        }
        for (int now = 8; now < 15; now++) {
            due.is("count(4) in " + now, x.count(4), 3 * (15 - now));
            due.is("next() in " + now, x.next(), 3);
        }
        due.is("next(), none is left", x.next(), 0);
    }

    private static void leavesTheRest(Due due) {
        Counted x = Samples.busy();
        due.is("next() of a busy object", x.next(), 0);
        Samples.blockIs(due, "waits still", x, Samples.WAITS, 1, 1, 4, 24);
        due.is("the altered byte", x.byteAt(Samples.WAITS, 3), 2);
        due.is("next() again", x.next(), 2);
        Samples.countsAre(due, "a busy object", x, 3, 3, 2, 0, 0, 1, 1, 7, 2);
        Samples.registersAre(due, "the latest run", x, 0, 0, 0, -1);
        due.is("ended(0)", x.ended(0), 1);
        due.is("ended(1)", x.ended(1), 1);
    }
}
