/** Promise 12: register. */
final class P12RegisterTest {
    public static void main(String[] args) {
        Due due = new Due();
        MadeRunners x = new MadeRunners(1);
        Samples.registersAre(due, "before", x, 0, 0, 0, 0);
        int block = Samples.block(x, Samples.row(Samples.SET, 2, 7), Samples.row(Samples.MOVE, 3, 1));
        Samples.registersAre(due, "before a run", x, 0, 0, 0, 0);
        x.run(block, Long.MAX_VALUE, Long.MIN_VALUE);
        Samples.registersAre(due, "behind a run", x, Long.MAX_VALUE, Long.MIN_VALUE, 7, Long.MIN_VALUE);
        int none = x.block();
        x.run(none, 1, 2);
        Samples.registersAre(due, "behind a run of nothing", x, 1, 2, 0, 0);
        x.make(block);
        x.border();
        x.run(block, 3, 4);
        Samples.registersAre(due, "behind a run by bytes", x, 3, 4, 7, 4);
        x.same(block, 8, 9);
        x.next();
        Samples.registersAre(due, "still", x, 3, 4, 7, 4);
        for (int r : new int[] {-1, 4, Integer.MAX_VALUE, Integer.MIN_VALUE}) {
            due.noBlock("register(" + r + ")", () -> x.register(r));
        }
        due.end();
    }
}
