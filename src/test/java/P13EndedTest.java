/** Promise 13: ended. */
final class P13EndedTest {
    public static void main(String[] args) {
        Due due = new Due();
        MadeRunners x = new MadeRunners(1);
        due.is("ended(0) before", x.ended(0), 0);
        due.is("ended(1) before", x.ended(1), 0);
        int block = Samples.countdown(x);
        x.instruction(block, Samples.DIV, 2, 1);
        for (int way = 0; way < 2; way++) {
            x.run(block, 2, 0);
            due.is("a fault", x.ended(0) * 10 + x.ended(1), 10 + way);
            x.run(block, 0, 1);
            due.is("stopped", x.ended(0) * 10 + x.ended(1), 20 + way);
            x.run(block, 2, 1);
            due.is("at the end", x.ended(0) * 10 + x.ended(1), way);
            x.make(block);
            x.border();
        }
        x.run(block, 2, 0);
        x.same(block, 2, 1);
        due.is("what the run left stays", x.ended(0) * 10 + x.ended(1), 11);
        x.next();
        due.is("what the run left stays", x.ended(0) * 10 + x.ended(1), 11);
        for (int what : new int[] {-1, 2, Integer.MAX_VALUE, Integer.MIN_VALUE}) {
            due.noBlock("ended(" + what + ")", () -> x.ended(what));
        }
        due.end();
    }
}
