/** Promise 10: next. */
final class P10NextTest {
    public static void main(String[] args) {
        Due due = new Due();
        for (int limit = 1; limit <= 8; limit++) {
            oneEach(due, limit);
        }
        together(due);
        madeAnew(due);
        due.end();
    }

    /** A block made in each generation goes when its generation goes, and not before. */
    private static void oneEach(Due due, int limit) {
        MadeRunners x = new MadeRunners(limit);
        for (int now = 0; now < 20; now++) {
            due.is("block made in " + now, x.make(x.block()), 1);
            if (now % 2 == 0) {
                x.border();
            }
            boolean oneGoes = now + 1 >= limit;
            due.is("next() behind " + now + ", G " + limit, x.next(), oneGoes ? 1 : 0);
            int oldest = oneGoes ? now + 2 - limit : 0;
            due.is("now", x.count(1), now + 1);
            due.is("oldest of G " + limit, x.count(2), oldest);
            for (int i = 0; i <= now; i++) {
                due.is("generation of " + i + ", G " + limit, x.what(i, 1), i >= oldest ? i : MadeRunners.NONE);
                due.fails("rows: " + i + ", G " + limit, (x.what(i, 0) == 0) != (i < oldest));
                due.is("bytes of " + i + ", G " + limit, x.what(i, 3), i >= oldest ? 1 : 0);
            }
        }
    }

    private static void together(Due due) {
        MadeRunners x = new MadeRunners(1);
        for (int i = 0; i < 24; i++) {
            x.block();
        }
        due.is("next() with rows alone", x.next(), 0);
        for (int i = 0; i < 24; i++) {
            x.make(i);
            if (i == 10) {
                x.border();
            }
        }
        x.instruction(3, Samples.SET, 0, 0);
        due.is("next(), handed and waiting ones", x.next(), 23);
        due.is("none is handed", x.count(3), 0);
        due.is("none waits", x.count(4), 0);
        due.is("not right at borders: none", x.count(5), 0);
        due.is("next() again", x.next(), 0);
    }

    private static void madeAnew(Due due) {
        MadeRunners x = new MadeRunners(2);
        int block = Samples.countdown(x);
        x.make(block);
        x.next();
        x.make(block);
        due.is("next(): it belongs to the later one", x.next(), 0);
        due.is("next(): that one goes", x.next(), 1);
        due.is("its instructions stay", x.what(block, 2), 3);
        due.is("it runs as it is", x.run(block, 2, 0) * 10 + x.ended(1), 50);
    }
}
