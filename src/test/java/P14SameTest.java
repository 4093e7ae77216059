/** Promise 14: same. */
final class P14SameTest {
    public static void main(String[] args) {
        Due due = new Due();
        states(due);
        differences(due);
        leavesNothing(due);
        due.end();
    }

    private static void states(Due due) {
        MadeRunners x = new MadeRunners(1);
        due.noBlock("same(0, ..)", () -> x.same(0, 0, 0));
        int block = Samples.countdown(x);
        due.noBlock("same(-1, ..)", () -> x.same(-1, 0, 0));
        due.wrongState("same of rows", () -> x.same(block, 1, 1));
        x.make(block);
        due.holds("same of a waiting one", x.same(block, 7, 0));
        due.holds("same of one that is stopped", x.same(block, -7, 0));
        x.alter(block, 0, 99);
        due.wrongState("same of a wrong one", () -> x.same(block, 7, 0));
        due.is("it waits still", x.what(block, 0), 1);
        x.alter(block, 0, 16);
        x.alter(block, 15, 5);
        due.wrongState("same of a wrong branch", () -> x.same(block, 7, 0));
        x.alter(block, 15, 4);
        x.border();
        due.holds("same of a handed one", x.same(block, 7, 0));
        x.next();
        due.wrongState("same of a dropped one", () -> x.same(block, 7, 0));
    }

    private static void differences(Due due) {
        MadeRunners x = new MadeRunners(1);
        int move = Samples.block(x, Samples.row(Samples.MOVE, 2, 1));
        x.make(move);
        x.alter(move, 1, 0);
        due.fails("other registers", x.same(move, 1, 2));
        due.holds("by chance the same", x.same(move, 2, 2));
        x.border();
        due.fails("other registers, handed", x.same(move, 1, 2));
        for (int r = 0; r < 4; r++) {
            int set = Samples.block(x, Samples.row(Samples.SET, r, 5));
            x.make(set);
            due.holds("as made, register " + r, x.same(set, 0, 0));
            x.alter(set, 1, 6);
            due.fails("register " + r, x.same(set, 0, 0));
        }
        int jump = Samples.block(x, Samples.row(Samples.JUMP, 0, 2), Samples.row(Samples.MOVE, 1, 1), Samples.row(Samples.MOVE, 1, 1));
        x.make(jump);
        x.alter(jump, 4, 13);
        due.fails("other steps", x.same(jump, 1, 0));
        due.holds("the jump is not done", x.same(jump, 0, 0));
        int fault = Samples.block(x, Samples.row(Samples.JUMP, 0, 60), Samples.row(Samples.DIV, 2, 3));
        x.make(fault);
        x.alter(fault, 4, 5);
        due.fails("another end", x.same(fault, 1, 0));
        due.holds("a fault both ways", x.same(fault, 0, 0));
    }

    private static void leavesNothing(Due due) {
        MadeRunners x = new MadeRunners(1);
        int block = Samples.countdown(x);
        x.make(block);
        x.same(block, 9, 9);
        due.is("no run", x.count(6), 0);
        due.is("no steps", x.count(7), 0);
        Samples.registersAre(due, "before a run", x, 0, 0, 0, 0);
        x.run(block, 3, 4);
        x.same(block, -1, 6);
        Samples.registersAre(due, "behind a run", x, 0, 4, 0, -1);
        due.is("ended", x.ended(0) * 10 + x.ended(1), 0);
        due.is("one run", x.count(6), 1);
        due.is("its steps", x.count(7), 7);
    }
}
