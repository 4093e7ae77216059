/** Promise 1: a new object. */
final class P01NewObjectTest {
    public static void main(String[] args) {
        Passage.section("Promise 1: A new object")
                .sentence("G is 1 + (generations - 1) modulo 8", P01NewObjectTest::moduloEight)
                .sentence("(the rest not below 0).", P01NewObjectTest::restNotBelowZero)
                .sentence("No blocks,", P01NewObjectTest::noBlocks)
                .sentence("generation 0.", P01NewObjectTest::generationZero)
                .end();
    }

    private static void limitIs(Due due, int generations, int want) {
        Counted x = new Counted(generations);
        due.is("count(8) of MadeRunners(" + generations + ")", x.count(8), want);
        // So many generations live: what was made in the first one goes with the one that is too many.
        x.make(x.block());
        for (int i = 1; i < want; i++) {
            due.is("next() " + i + " of MadeRunners(" + generations + ")", x.next(), 0);
        }
        due.is("next() " + want + " of MadeRunners(" + generations + ")", x.next(), 1);
    }

    private static void moduloEight(Due due) {
        for (int generations = 1; generations <= 8; generations++) {
            limitIs(due, generations, generations);
        }
        limitIs(due, 9, 1);
        limitIs(due, 10, 2);
        limitIs(due, 15, 7);
        limitIs(due, 16, 8);
        limitIs(due, 17, 1);
        limitIs(due, 24, 8);
        limitIs(due, 1000, 8);
        limitIs(due, 1001, 1);
        limitIs(due, Integer.MAX_VALUE, 7);
        limitIs(due, Integer.MAX_VALUE - 1, 6);
    }

    private static void restNotBelowZero(Due due) {
        limitIs(due, 0, 8);
        limitIs(due, -1, 7);
        limitIs(due, -2, 6);
        limitIs(due, -6, 2);
        limitIs(due, -7, 1);
        limitIs(due, -8, 8);
        limitIs(due, -9, 7);
        limitIs(due, -15, 1);
        limitIs(due, -16, 8);
        // generations - 1 is below the least int here.
        limitIs(due, Integer.MIN_VALUE, 8);
        limitIs(due, Integer.MIN_VALUE + 1, 1);
        limitIs(due, Integer.MIN_VALUE + 2, 2);
    }

    private static void noBlocks(Due due) {
        Samples.countsAre(due, "new", new Counted(3), 0, 0, 0, 0, 0, 0, 0, 0, 3);
        due.outOfBounds("what(0, 0)", Samples::fresh, x -> x.what(0, 0));
        due.is("border()", new Counted(3).border(), 0);
        due.is("next()", new Counted(1).next(), 0);
        due.is("block()", new Counted(3).block(), 0);
        twoInTurn(due);
    }

    /** What is done to one object is nothing to another. */
    private static void twoInTurn(Due due) {
        Counted first = Samples.busy();
        Counted second = Samples.longest();
        second.border();
        second.run(0, 5, 5);
        second.next();
        due.reads("an object beside another", Samples.stateOf(first), Samples.stateOf(Samples.busy()));
        Samples.countsAre(due, "the other one", second, 1, 1, 1, 0, 0, 0, 1, 43, 1);
        Samples.countsAre(due, "a new object beside others", new Counted(3), 0, 0, 0, 0, 0, 0, 0, 0, 3);
    }

    private static void generationZero(Due due) {
        Counted x = new Counted(1);
        due.is("count(1)", x.count(1), 0);
        due.is("count(2)", x.count(2), 0);
        x.make(x.block());
        due.is("what(0, 1)", x.what(0, 1), 0);
    }
}
