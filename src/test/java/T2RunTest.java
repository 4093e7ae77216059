/** Terms: a run. Each block is run as it is and by its bytes, as both do the same. */
final class T2RunTest {
    public static void main(String[] args) {
        Passage.paragraph("Terms", "A RUN:")
                .sentence("A RUN: registers are x, y, 0, 0 at first;", T2RunTest::registersAtFirst)
                .sentence("instructions from 0 on, until the end;", T2RunTest::untilTheEnd)
                .sentence("each that is done is a STEP;", T2RunTest::steps)
                .sentence("a DIV by 0 is a FAULT", T2RunTest::fault)
                .sentence("(not done),", T2RunTest::faultIsNotDone)
                .sentence("with 2000 steps done it is STOPPED", T2RunTest::stopped)
                .sentence("(unless it is at the end).", T2RunTest::atTheEndWith2000)
                .end();
    }

    private static void registersAtFirst(Due due) {
        Trial.of().given(8, -9).ends(due, 0, 8, -9, 0, 0);
        Counted x = Samples.fresh();
        int sets = Samples.block(x, Rows.set(0, 1), Rows.set(1, 2), Rows.set(2, 3), Rows.set(3, 4));
        int none = x.block();
        for (int way = 0; way < 2; way++) {
            x.run(sets, 0, 0);
            Samples.registersAre(due, "behind four SETs", x, 1, 2, 3, 4);
            due.is("run of no instruction", x.run(none, 5, 6), 0);
            Samples.registersAre(due, "another run begins anew", x, 5, 6, 0, 0);
            x.make(sets);
            x.make(none);
            x.border();
        }
    }

    private static void untilTheEnd(Due due) {
        Trial.of(Rows.set(2, 1)).ends(due, 1, 0, 0, 1, 0);
        Trial.of(Rows.set(2, 1), Rows.add(3, 2), Rows.add(2, 3)).ends(due, 3, 0, 0, 2, 1);
        Trial.of(Rows.jump(2, 0), Rows.set(2, 1), Rows.move(3, 2)).ends(due, 3, 0, 0, 1, 1);
    }

    private static void steps(Due due) {
        Trial.of().ends(due, 0, 0, 0, 0, 0);
        for (int op = Rows.SET; op <= Rows.MOVE; op++) {
            int[] row = Rows.row(op, 2, 1);
            long result = op == Rows.SET || op == Rows.ADD || op == Rows.LESS || op == Rows.MOVE ? 1 : op == Rows.SUB ? -1 : 0;
            Trial.of(row).given(0, 1).ends(due, 1, 0, 1, result, 0);
        }
        // A JUMP is done whether it jumps or not.
        Trial.of(Rows.jump(0, 1), Rows.jump(0, 2), Rows.jump(0, 3)).given(0, 0).ends(due, 3, 0, 0, 0, 0);
        Trial.of(Rows.jump(0, 1), Rows.jump(0, 2), Rows.jump(0, 3)).given(1, 0).ends(due, 3, 1, 0, 0, 0);
        Trial.of(Rows.countdown(0)).given(1, 0).ends(due, 3, 0, 0, 0, -1);
        Trial.of(Rows.countdown(5)).given(20, 0).ends(due, 46, 0, 0, 0, -1);
    }

    private static void fault(Due due) {
        Trial.of(Rows.div(0, 1)).given(5, 0).faults(due, 0, 5, 0, 0, 0);
        Trial.of(Rows.div(0, 1)).given(0, 0).faults(due, 0, 0, 0, 0, 0);
        Trial.of(Rows.div(0, 0)).given(0, 1).faults(due, 0, 0, 1, 0, 0);
        Trial.of(Rows.div(0, 1)).given(Long.MIN_VALUE, 0).faults(due, 0, Long.MIN_VALUE, 0, 0, 0);
        for (long divisor : new long[] {1, -1, 256, 1L << 32, Long.MIN_VALUE, Long.MAX_VALUE}) {
            Trial.of(Rows.div(2, 1)).given(5, divisor).ends(due, 1, 5, divisor, 0, 0);
        }
        // A DIV by 0 that a JUMP leaves out is none.
        Trial.of(Rows.jump(0, 2), Rows.div(0, 2)).given(5, 0).ends(due, 1, 5, 0, 0, 0);
    }

    private static void faultIsNotDone(Due due) {
        Trial.of(Rows.set(2, 4), Rows.div(0, 3), Rows.set(0, 1)).given(8, 9).faults(due, 1, 8, 9, 4, 0);
        Trial.of(Rows.countdown(0, Rows.div(1, 0), Rows.set(1, 1))).given(3, 9).faults(due, 7, 0, 9, 0, -1);
        // The 2000th step would have been the DIV.
        Trial.of(Rows.countdown(0, Rows.div(2, 1))).given(999, 0).faults(due, 1999, 0, 0, 0, -1);
        Trial.of(Rows.countdown(1, Rows.div(2, 1))).given(998, 0).faults(due, 1998, 0, 0, 0, -1);
    }

    private static void stopped(Due due) {
        Trial.of(Rows.jump(0, 0)).given(-1, 5).stops(due, -1, 5, 0, 0);
        Trial.of(Rows.add(2, 0), Rows.jump(0, 0)).given(1, 0).stops(due, 1, 0, 1000, 0);
        // The last step is not done: the JUMP, an instruction behind it, a DIV, a DIV by 0.
        Trial.of(Rows.countdown(0)).given(1000, 0).stops(due, 0, 0, 0, -1);
        Trial.of(Rows.countdown(1, Rows.set(2, 7))).given(999, 0).stops(due, 0, 0, 0, -1);
        Trial.of(Rows.countdown(1, Rows.div(3, 3))).given(999, 0).stops(due, 0, 0, 0, -1);
        Trial.of(Rows.countdown(1, Rows.div(2, 1))).given(999, 0).stops(due, 0, 0, 0, -1);
        Trial.of(Rows.countdown(1, Rows.jump(3, 60))).given(999, 0).stops(due, 0, 0, 0, -1);
        Trial.of(Rows.countdown(0)).given(Long.MAX_VALUE, 0).stops(due, Long.MAX_VALUE - 1000, 0, 0, -1);
        Trial.of(Rows.countdown(0)).given(-1, 0).stops(due, -1001, 0, 0, -1);
    }

    private static void atTheEndWith2000(Due due) {
        Trial.of(Rows.countdown(0)).given(999, 0).ends(due, 1999, 0, 0, 0, -1);
        // The 2000th step is a JUMP that is none, one of another kind, a DIV, and JUMPs to the end.
        Trial.of(Rows.countdown(1)).given(999, 0).ends(due, 2000, 0, 0, 0, -1);
        Trial.of(Rows.countdown(0, Rows.set(2, 7))).given(999, 0).ends(due, 2000, 0, 0, 7, -1);
        Trial.of(Rows.countdown(0, Rows.div(3, 3))).given(999, 0).ends(due, 2000, 0, 0, 0, 1);
        Trial.of(Rows.countdown(0, Rows.jump(3, 60))).given(999, 0).ends(due, 2000, 0, 0, 0, -1);
        Trial.of(Rows.countdown(0, Rows.jump(3, 4))).given(999, 0).ends(due, 2000, 0, 0, 0, -1);
        Trial.of(Rows.countdown(0, Rows.jump(3, 5), Rows.set(2, 7))).given(999, 0).ends(due, 2000, 0, 0, 0, -1);
    }
}
