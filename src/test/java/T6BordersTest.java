/** Terms: what a block is, borders, and generations. */
final class T6BordersTest {
    public static void main(String[] args) {
        Passage.paragraph("Terms", "A block is ROWS")
                .sentence("A block is ROWS, WAITING (made, not handed over), or HANDED.", T6BordersTest::whatABlockIs)
                .sentence("AT A BORDER each waiting one, by number, is checked:", T6BordersTest::eachWaitingOne)
                .sentence("right ones are handed,", T6BordersTest::rightOnes)
                .sentence("others are rows again,", T6BordersTest::wrongOnes)
                .sentence("and told (counted).", T6BordersTest::wrongOnesAreCounted)
                .sentence("Handed ones are run by bytes, others as they are.", T6BordersTest::howTheyAreRun)
                .sentence("GENERATIONS are numbered from 0;", T6BordersTest::fromZero)
                .sentence("what is made belongs to the one that is now.", T6BordersTest::belongsToNow)
                .sentence("At most G live: with one more the oldest goes:", T6BordersTest::oldestGoes)
                .sentence("what belongs to it is rows.", T6BordersTest::whatBelongsIsRows)
                .end();
    }

    private static void whatABlockIs(Due due) {
        Counted x = new Counted(1);
        int block = Samples.countdown(x);
        Samples.blockIs(due, "told", x, block, 0, -1, 3, 0);
        x.make(block);
        Samples.blockIs(due, "made", x, block, 1, 0, 3, 17);
        x.border();
        Samples.blockIs(due, "handed over", x, block, 2, 0, 3, 17);
        x.border();
        Samples.blockIs(due, "at another border", x, block, 2, 0, 3, 17);
        x.make(block);
        Samples.blockIs(due, "made anew", x, block, 1, 0, 3, 17);
        x.next();
        Samples.blockIs(due, "dropped", x, block, 0, -1, 3, 0);
    }

    private static void eachWaitingOne(Due due) {
        Counted x = Samples.fresh();
        Samples.blocks(x, 24);
        due.is("border() with 24 that are rows", x.border(), 0);
        for (int i = 0; i < 24; i++) {
            x.make(i);
        }
        due.is("border() with 24 that wait", x.border(), 24);
        due.is("border() with 24 that are handed", x.border(), 0);
        x.make(0);
        x.make(23);
        due.is("border(), the first and the last one wait", x.border(), 2);
        due.is("count(3)", x.count(3), 24);
        due.is("border() of no block", Samples.fresh().border(), 0);
    }

    private static void rightOnes(Due due) {
        Counted x = Samples.fresh();
        Samples.countdown(x);
        x.make(0);
        x.alter(0, 1, 254);
        due.is("border(), altered and right", x.border(), 1);
        Samples.blockIs(due, "altered and right", x, 0, 2, 0, 3, 17);
        due.is("the altered byte stays", x.byteAt(0, 1), 254);
        due.is("count(5)", x.count(5), 0);
    }

    private static void wrongOnes(Due due) {
        Counted x = Samples.fresh();
        for (int i = 0; i < 24; i++) {
            Samples.block(x, Rows.jump(0, 1));
            x.make(i);
        }
        // Every third one by its code, every third one by its branch.
        for (int i = 0; i < 24; i += 3) {
            x.alter(i, 0, 99);
            x.alter(i + 1, 4, 4);
        }
        due.is("border(), 8 of 24 are right", x.border(), 8);
        for (int i = 0; i < 24; i++) {
            boolean right = i % 3 == 2;
            Samples.blockIs(due, right ? "right" : "wrong", x, i, right ? 2 : 0, right ? 0 : -1, 1, right ? 6 : 0);
        }
        due.is("make of one that was wrong", x.make(0), 6);
        due.is("byteAt(0, 0), as made", x.byteAt(0, 0), 1);
        due.is("border()", x.border(), 1);
    }

    private static void wrongOnesAreCounted(Due due) {
        Counted x = Samples.fresh();
        Samples.blocks(x, 24);
        int told = 0;
        for (int round = 0; round < 8; round++) {
            for (int i = 0; i < 24; i++) {
                x.make(i);
                x.alter(i, 0, 0);
            }
            due.is("count(5) before the border", x.count(5), told);
            due.is("border() with 24 wrong ones", x.border(), 0);
            told += 24;
            due.is("count(5) behind the border", x.count(5), told);
        }
        due.is("border() with none that waits", x.border(), 0);
        due.is("count(5)", x.count(5), told);
    }

    private static void howTheyAreRun(Due due) {
        Counted x = Samples.fresh();
        int block = Samples.block(x, Rows.set(2, 5));
        ranWith(due, "rows", x, block, 5, 0);
        x.make(block);
        ranWith(due, "waiting", x, block, 5, 0);
        x.alter(block, 1, 6);
        ranWith(due, "waiting and altered", x, block, 5, 0);
        x.border();
        ranWith(due, "handed", x, block, 6, 1);
        x.make(block);
        ranWith(due, "made anew", x, block, 5, 0);
        x.alter(block, 0, 0);
        ranWith(due, "waiting and wrong", x, block, 5, 0);
        x.border();
        ranWith(due, "rows again", x, block, 5, 0);
        x.make(block);
        x.alter(block, 1, 7);
        x.border();
        ranWith(due, "handed again", x, block, 7, 1);
        x.next();
        ranWith(due, "dropped", x, block, 5, 0);
    }

    private static void ranWith(Due due, String when, Counted x, int block, long register, int byBytes) {
        due.is(when + ", run", x.run(block, 0, 0), 1);
        due.is(when + ", register(2)", x.register(2), register);
        due.is(when + ", ended(1)", x.ended(1), byBytes);
    }

    private static void fromZero(Due due) {
        Counted x = new Counted(8);
        due.is("count(1) of a new object", x.count(1), 0);
        x.make(x.block());
        due.is("what(0, 1)", x.what(0, 1), 0);
        for (int i = 1; i < 8; i++) {
            x.next();
            due.is("count(1)", x.count(1), i);
            due.is("what(0, 1)", x.what(0, 1), 0);
        }
    }

    private static void belongsToNow(Due due) {
        Counted x = new Counted(8);
        Samples.countdown(x);
        x.next();
        x.next();
        due.is("what(0, 1) of rows", x.what(0, 1), MadeRunners.NONE);
        x.make(0);
        due.is("made in 2", x.what(0, 1), 2);
        x.next();
        x.border();
        due.is("made in 2, handed over in 3", x.what(0, 1), 2);
        x.make(0);
        due.is("made anew in 3", x.what(0, 1), 3);
        x.next();
        x.alter(0, 1, 254);
        x.check(0);
        due.is("made in 3, altered and checked in 4", x.what(0, 1), 3);
        x.instruction(0, Rows.SET, 0, 0);
        due.is("rows", x.what(0, 1), MadeRunners.NONE);
        x.make(0);
        due.is("made in 4", x.what(0, 1), 4);
    }

    private static void oldestGoes(Due due) {
        for (int limit = 1; limit <= 8; limit++) {
            oneInEach(due, limit);
        }
    }

    /** A block made in each generation goes when its generation goes, and not before. */
    private static void oneInEach(Due due, int limit) {
        Counted x = new Counted(limit);
        for (int now = 0; now < 18; now++) {
            due.is("make in " + now, x.make(x.block()), 1);
            if (now % 2 == 0) {
                x.border();
            }
            boolean oneGoes = now + 1 >= limit;
            due.is("next() behind " + now + ", G " + limit, x.next(), oneGoes ? 1 : 0);
            int oldest = oneGoes ? now + 2 - limit : 0;
            due.is("count(2), G " + limit, x.count(2), oldest);
            for (int i = 0; i <= now; i++) {
                due.is("what(" + i + ", 1) in " + (now + 1) + ", G " + limit, x.what(i, 1), i >= oldest ? i : MadeRunners.NONE);
            }
        }
    }

    private static void whatBelongsIsRows(Due due) {
        Counted x = new Counted(2);
        for (int i = 0; i < 4; i++) {
            Samples.countdown(x);
        }
        x.make(0);
        x.border();
        x.make(1);
        x.next();
        x.make(2);
        due.is("next(), a handed one and a waiting one", x.next(), 2);
        int[][] want = {{0, -1, 3, 0}, {0, -1, 3, 0}, {1, 1, 3, 17}, {0, -1, 3, 0}};
        for (int i = 0; i < want.length; i++) {
            Samples.blockIs(due, "generation 0 is gone", x, i, want[i]);
        }
        due.is("border()", x.border(), 1);
        due.is("count(5): what is dropped is not told", x.count(5), 0);
        due.is("make of a dropped one", x.make(0), 17);
        Samples.blockIs(due, "made anew", x, 0, 1, 2, 3, 17);
    }
}
