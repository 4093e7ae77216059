/** Promise 14: same. */
final class P14SameTest {
    public static void main(String[] args) {
        Passage.section("Promise 14: same")
                .sentence("Whether a block that is made (waiting or handed, checked to be right)", P14SameTest::made)
                .sentence("does the same by bytes as by rows:", P14SameTest::theSame)
                .sentence("registers,", P14SameTest::registers)
                .sentence("steps,", P14SameTest::steps)
                .sentence("how it ends.", P14SameTest::howItEnds)
                .sentence("(What the latest run() left stays.)", P14SameTest::latestStays)
                .sentence("IllegalStateException, when it is rows,", P14SameTest::rows)
                .sentence("or not right.", P14SameTest::notRight)
                .end();
    }

    private static void made(Due due) {
        Counted x = Samples.withMade(Rows.countdown(0));
        due.is("same of a waiting one", x.same(0, 7, 0), true);
        Samples.blockIs(due, "it waits still", x, 0, 1, 0, 3, 17);
        x.border();
        due.is("same of a handed one", x.same(0, 7, 0), true);
        Samples.blockIs(due, "it is handed still", x, 0, 2, 0, 3, 17);
        due.is("same of END alone", Samples.withMade().same(0, 1, 2), true);
        due.is("same of 300 bytes", Samples.longest().same(0, 1, 2), true);
        due.is("same of an altered one that waits", Samples.busy().same(Samples.WAITS, 2, 0), false);
    }

    private static void theSame(Due due) {
        Counted x = Samples.withMade(Rows.countdown(0, Rows.div(2, 1)));
        due.is("same, at the end", x.same(0, 5, 1), true);
        due.is("same, a fault", x.same(0, 5, 0), true);
        due.is("same, stopped", x.same(0, -5, 0), true);
        due.is("same, 1999 steps and a fault", x.same(0, 999, 0), true);
        due.is("same, 2000 steps at the end", x.same(0, 999, 1), true);
        due.is("same, 2000 steps and stopped", x.same(0, 1000, 1), true);
        Counted y = Samples.withMade(Rows.countdown(1, Rows.div(2, 1)));
        due.is("same, 2000 steps and a DIV by 0 ahead", y.same(0, 999, 0), true);
        due.is("same, the least number", x.same(0, Long.MIN_VALUE, Long.MIN_VALUE), true);
    }

    private static void registers(Due due) {
        for (int r = 0; r < 4; r++) {
            Counted x = Samples.withMade(Rows.set(r, 5));
            due.is("same as made, register " + r, x.same(0, 0, 0), true);
            x.alter(0, 1, 6);
            due.is("same, other numbers in register " + r, x.same(0, 0, 0), false);
            x.border();
            due.is("same, other numbers in register " + r + ", handed", x.same(0, 0, 0), false);
        }
        Counted x = Samples.withMade(Rows.move(2, 1));
        x.alter(0, 1, 0);
        due.is("same, other numbers", x.same(0, 1, 2), false);
        due.is("same, by chance the same numbers", x.same(0, 2, 2), true);
        due.is("same, other in the high half alone", x.same(0, 1L << 32, 0), false);
        due.is("same, other in the sign alone", x.same(0, Long.MIN_VALUE, 0), false);
    }

    private static void steps(Due due) {
        Counted x = Samples.withMade(Rows.jump(0, 2), Rows.move(1, 1), Rows.move(1, 1));
        due.is("same as made", x.same(0, 1, 0), true);
        x.alter(0, 4, 13);
        due.is("same, one step less", x.same(0, 1, 0), false);
        x.alter(0, 4, 5);
        due.is("same, one step more", x.same(0, 1, 0), false);
        due.is("same, the jump is not done", x.same(0, 0, 0), true);
    }

    private static void howItEnds(Due due) {
        Counted x = Samples.withMade(Rows.jump(0, 60), Rows.div(2, 3));
        x.alter(0, 4, 5);
        due.is("same, one step and then the end, or a fault", x.same(0, 1, 0), false);
        due.is("same, a fault both ways", x.same(0, 0, 0), true);
        Counted y = Samples.withMade(Rows.jump(0, 1), Rows.div(2, 3));
        y.alter(0, 4, 12);
        due.is("same, one step and then a fault, or the end", y.same(0, 1, 0), false);
        // The 2000th step leads to the end, or elsewhere.
        Counted z = Samples.withMade(Rows.countdown(0, Rows.jump(3, 60)));
        due.is("same, 2000 steps", z.same(0, 999, 0), true);
        z.alter(0, 20, 16);
        due.is("same, 2000 steps and the end, or stopped", z.same(0, 999, 0), false);
    }

    private static void latestStays(Due due) {
        Counted x = Samples.busy();
        x.same(Samples.WAITS, -1, 6);
        x.same(Samples.IS_HANDED, 9, 9);
        x.same(Samples.IS_HANDED, 9, 0);
        due.reads("what can be asked behind same()", Samples.stateOf(x), Samples.stateOf(Samples.busy()));
        Counted y = Samples.withMade(Rows.countdown(0));
        y.same(0, 9, 9);
        Samples.countsAre(due, "before a run", y, 1, 0, 0, 0, 1, 0, 0, 0, 1);
        Samples.registersAre(due, "before a run", y, 0, 0, 0, 0);
    }

    private static void rows(Due due) {
        Samples.rowsInAnyWay().forEach((kind, made) -> due.wrongState("same of " + kind, made, x -> x.same(0, 1, 1)));
    }

    private static void notRight(Due due) {
        due.wrongState("same of a wrong code", () -> altered(0, 99), x -> x.same(0, 7, 0));
        due.wrongState("same of a wrong register", () -> altered(3, 4), x -> x.same(0, 7, 0));
        due.wrongState("same of no END", () -> altered(16, 4), x -> x.same(0, 7, 0));
        due.wrongState("same of a wrong branch", () -> altered(15, 5), x -> x.same(0, 7, 0));
        due.wrongState("same of a branch beyond the end", () -> altered(15, 17), x -> x.same(0, 7, 0));
        due.is("same of a branch to END", altered(15, 16).same(0, 1, 0), true);
        Counted x = altered(0, 99);
        x.alter(0, 0, 16);
        due.is("same, right again", x.same(0, 7, 0), true);
    }

    private static Counted altered(int i, int v) {
        Counted x = Samples.withMade(Rows.countdown(0));
        x.alter(0, i, v);
        return x;
    }
}
