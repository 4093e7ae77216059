/** Promise 9: what. */
final class P09WhatTest {
    public static void main(String[] args) {
        Passage.section("Promise 9: what")
                .sentence("Of a block what it is (what 0: 0 rows, 1 waiting, 2 handed),", P09WhatTest::whatItIs)
                .sentence("its generation (1; NONE of rows),", P09WhatTest::itsGeneration)
                .sentence("instructions (2),", P09WhatTest::instructions)
                .sentence("bytes (3; 0 of rows).", P09WhatTest::bytes)
                .sentence("IllegalArgumentException, for another what.", P09WhatTest::anotherWhat)
                .end();
    }

    private static void whatItIs(Due due) {
        Counted x = Samples.busy();
        due.is("rows", x.what(Samples.IS_ROWS, 0), 0);
        due.is("waiting", x.what(Samples.WAITS, 0), 1);
        due.is("handed", x.what(Samples.IS_HANDED, 0), 2);
        Samples.rowsInAnyWay().forEach((kind, made) -> due.is("what 0 of " + kind, made.get().what(0, 0), 0));
    }

    private static void itsGeneration(Due due) {
        Samples.rowsInAnyWay().forEach((kind, made) -> due.is("what 1 of " + kind, made.get().what(0, 1), MadeRunners.NONE));
        Counted x = new Counted(1);
        x.block();
        for (int now = 0; now < 40; now++) {
            x.make(0);
            due.is("made now", x.what(0, 1), now);
            x.border();
            due.is("handed now", x.what(0, 1), now);
            x.next();
            due.is("dropped", x.what(0, 1), MadeRunners.NONE);
        }
    }

    private static void instructions(Due due) {
        Counted x = Samples.fresh();
        x.block();
        due.is("of a new one", x.what(0, 2), 0);
        for (int i = 1; i <= 60; i++) {
            x.instruction(0, Rows.SET, 0, 1);
            due.is("of rows", x.what(0, 2), i);
            x.make(0);
            due.is("of a waiting one", x.what(0, 2), i);
            x.border();
            due.is("of a handed one", x.what(0, 2), i);
        }
        x.next();
        due.is("of a dropped one", x.what(0, 2), 60);
    }

    private static void bytes(Due due) {
        Samples.rowsInAnyWay().forEach((kind, made) -> due.is("what 3 of " + kind, made.get().what(0, 3), 0));
        due.is("of END alone", Samples.withMade().what(0, 3), 1);
        due.is("of 300, waiting", Samples.longest().what(0, 3), 300);
        due.is("of 300, handed", Samples.withHanded(Rows.longest()).what(0, 3), 300);
        Counted x = Samples.busy();
        due.is("of a waiting one", x.what(Samples.WAITS, 3), 24);
        due.is("of a handed one", x.what(Samples.IS_HANDED, 3), 24);
    }

    private static void anotherWhat(Due due) {
        for (int what : new int[] {-1, 4, 5, 256, Integer.MAX_VALUE, Integer.MIN_VALUE}) {
            for (int block = 0; block < Samples.BUSY_BLOCKS; block++) {
                int asked = block;
                due.wrongArgument("what(" + block + ", " + what + ")", Samples::busy, x -> x.what(asked, what));
            }
        }
    }
}
