/** Promise 15: count. */
final class P15CountTest {
    public static void main(String[] args) {
        Passage.section("Promise 15: count")
                .sentence("Blocks (0),", P15CountTest::blocks)
                .sentence("the generation that is now (1),", P15CountTest::generation)
                .sentence("the oldest one that lives (2),", P15CountTest::oldest)
                .sentence("handed ones (3),", P15CountTest::handed)
                .sentence("waiting ones (4),", P15CountTest::waiting)
                .sentence("not right at borders so far (5),", P15CountTest::notRight)
                .sentence("runs so far (6),", P15CountTest::runs)
                .sentence("steps of all (7),", P15CountTest::steps)
                .sentence("G (8).", P15CountTest::limit)
                .sentence("NONE for another what.", P15CountTest::anotherWhat)
                .end();
    }

    private static void blocks(Due due) {
        Counted x = Samples.fresh();
        due.is("count(0) of a new object", x.count(0), 0);
        for (int i = 1; i <= 24; i++) {
            x.block();
            due.is("count(0)", x.count(0), i);
        }
        due.unsupported("block()", Samples::full, y -> y.block());
        due.is("count(0) of a full object", Samples.full().count(0), 24);
    }

    private static void generation(Due due) {
        Counted x = new Counted(8);
        for (int now = 0; now < 200; now++) {
            due.is("count(1)", x.count(1), now);
            x.next();
        }
    }

    private static void oldest(Due due) {
        for (int limit = 1; limit <= 8; limit++) {
            Counted x = new Counted(limit);
            for (int now = 0; now < 30; now++) {
                due.is("count(2) in " + now + ", G " + limit, x.count(2), now < limit ? 0 : now - limit + 1);
                x.next();
            }
        }
    }

    private static void handed(Due due) {
        Counted x = Samples.fresh();
        Samples.blocks(x, 24);
        for (int i = 0; i < 24; i++) {
            x.make(i);
            due.is("count(3) before a border", x.count(3), i);
            x.border();
            due.is("count(3) behind a border", x.count(3), i + 1);
        }
        x.make(5);
        due.is("count(3), one is made anew", x.count(3), 23);
        x.instruction(6, Rows.SET, 0, 0);
        due.is("count(3), one is told more", x.count(3), 22);
        x.next();
        due.is("count(3), all are dropped", x.count(3), 0);
    }

    private static void waiting(Due due) {
        Counted x = Samples.fresh();
        Samples.blocks(x, 24);
        due.is("count(4) of rows", x.count(4), 0);
        for (int i = 0; i < 24; i++) {
            x.make(i);
            due.is("count(4)", x.count(4), i + 1);
        }
        x.make(3);
        x.alter(4, 0, 0);
        due.is("count(4), made anew and altered", x.count(4), 24);
        x.instruction(6, Rows.SET, 0, 0);
        due.is("count(4), one is told more", x.count(4), 23);
        x.border();
        due.is("count(4) behind a border", x.count(4), 0);
        x.make(0);
        x.next();
        due.is("count(4), dropped", x.count(4), 0);
    }

    private static void notRight(Due due) {
        Counted x = Samples.fresh();
        Samples.blocks(x, 24);
        for (int i = 0; i < 24; i++) {
            x.make(i);
            x.alter(i, 0, i % 2);
            x.check(i);
        }
        due.is("count(5), checked and not at a border", x.count(5), 0);
        x.border();
        due.is("count(5)", x.count(5), 24);
        x.make(0);
        x.alter(0, 0, 9);
        x.next();
        x.border();
        due.is("count(5), dropped before the border", x.count(5), 24);
        x.make(0);
        x.alter(0, 0, 9);
        x.border();
        due.is("count(5) so far", x.count(5), 25);
        x.make(0);
        x.border();
        due.is("count(5), a right one", x.count(5), 25);
    }

    private static void runs(Due due) {
        Counted x = Samples.busy();
        due.is("count(6)", x.count(6), 1);
        for (int i = 0; i < 150; i++) {
            x.run(i % 3, i - 75, 1);
            due.is("count(6)", x.count(6), i + 2);
        }
        x.same(Samples.IS_HANDED, 1, 1);
        due.is("count(6) behind same()", x.count(6), 151);
        due.outOfBounds("run of no block is none", Samples::busy, y -> y.run(3, 1, 1));
    }

    private static void steps(Due due) {
        Counted x = Samples.fresh();
        int block = Samples.block(x, Rows.countdown(0, Rows.div(2, 1)));
        due.is("count(7) before a run", x.count(7), 0);
        int all = 0;
        for (int way = 0; way < 2; way++) {
            x.run(block, 5, 1);
            due.is("count(7), at the end", x.count(7), all + 12);
            x.run(block, 5, 0);
            due.is("count(7), a fault", x.count(7), all + 12 + 11);
            x.run(block, -5, 0);
            due.is("count(7), stopped", x.count(7), all + 12 + 11 + 2000);
            x.run(x.block(), 5, 5);
            all += 12 + 11 + 2000;
            due.is("count(7), a run of no step", x.count(7), all);
            x.make(block);
            x.border();
        }
        x.same(block, 5, 1);
        due.is("count(7) behind same()", x.count(7), all);
        due.outOfBounds("run of no block has none", Samples::busy, y -> y.run(3, 1, 1));
    }

    private static void limit(Due due) {
        for (int generations = 1; generations <= 8; generations++) {
            Counted x = new Counted(generations);
            due.is("count(8)", x.count(8), generations);
            for (int i = 0; i < 10; i++) {
                x.next();
            }
            due.is("count(8) later on", x.count(8), generations);
        }
    }

    private static void anotherWhat(Due due) {
        for (int what : new int[] {-1, 9, 10, 256, Integer.MAX_VALUE, Integer.MIN_VALUE}) {
            due.is("count(" + what + ") of a new object", Samples.fresh().count(what), MadeRunners.NONE);
            due.is("count(" + what + ") of a busy object", Samples.busy().count(what), MadeRunners.NONE);
        }
    }
}
