/** Promise 11: run. */
final class P11RunTest {
    private static final long LEAST = Long.MIN_VALUE;

    public static void main(String[] args) {
        Due due = new Due();
        each(due);
        jumps(due);
        limits(due);
        alteredBytes(due);
        deep(due);
        pileIsEmptyAgain(due);
        wrong(due);
        due.end();
    }

    /** Both ways: as rows (G is 1: a new generation drops all bytes), and as bytes that were handed over. */
    private static void bothWays(Due due, String name, MadeRunners x, int block, long[] given, long... want) {
        x.next();
        for (int way = 0; way < 2; way++) {
            String when = name + (way == 0 ? " by rows:" : " by bytes:");
            due.is(when + " steps", x.run(block, given[0], given[1]), want[0]);
            due.is(when + " ended(0)", x.ended(0), want[1]);
            due.is(when + " ended(1)", x.ended(1), way);
            Samples.registersAre(due, when, x, want[2], want[3], want[4], want[5]);
            x.make(block);
            x.border();
        }
    }

    private static void one(Due due, int op, long x0, long y0, long want) {
        MadeRunners x = new MadeRunners(1);
        int block = Samples.block(x, Samples.row(op, 0, 1));
        long[] given = {x0, y0};
        bothWays(due, "op " + op + " of " + x0 + ", " + y0, x, block, given, 1, 0, want, y0, 0, 0);
    }

    private static void each(Due due) {
        one(due, Samples.ADD, 5, -7, -2);
        one(due, Samples.ADD, Long.MAX_VALUE, 1, LEAST);
        one(due, Samples.SUB, 5, 7, -2);
        one(due, Samples.SUB, LEAST, 1, Long.MAX_VALUE);
        one(due, Samples.MUL, -5, 7, -35);
        one(due, Samples.MUL, 1L << 62, 4, 0);
        one(due, Samples.DIV, 7, 2, 3);
        one(due, Samples.DIV, -7, 2, -3);
        one(due, Samples.DIV, 7, -2, -3);
        one(due, Samples.DIV, LEAST, -1, LEAST);
        one(due, Samples.DIV, 0, 5, 0);
        one(due, Samples.LESS, 1, 2, 1);
        one(due, Samples.LESS, 2, 2, 0);
        one(due, Samples.LESS, 3, 2, 0);
        one(due, Samples.LESS, LEAST, Long.MAX_VALUE, 1);
        one(due, Samples.MOVE, 3, 2, 2);
        MadeRunners x = new MadeRunners(1);
        long[] given = {8, 9};
        int none = x.block();
        bothWays(due, "no instructions", x, none, given, 0, 0, 8, 9, 0, 0);
        int[] numbers = {0, 127, -128, 128, -129, Integer.MAX_VALUE, Integer.MIN_VALUE};
        for (int number : numbers) {
            int block = Samples.block(x, Samples.row(Samples.SET, 2, number));
            bothWays(due, "SET " + number, x, block, given, 1, 0, 8, 9, number, 0);
        }
        int fault = Samples.block(x, Samples.row(Samples.SET, 2, 4), Samples.row(Samples.DIV, 0, 3), Samples.row(Samples.SET, 0, 1));
        bothWays(due, "DIV by 0", x, fault, given, 1, 1, 8, 9, 4, 0);
        int itself = Samples.block(x, Samples.row(Samples.SUB, 0, 0), Samples.row(Samples.ADD, 1, 1), Samples.row(Samples.DIV, 0, 0));
        bothWays(due, "a register and itself", x, itself, given, 2, 1, 0, 18, 0, 0);
    }

    private static void jumps(Due due) {
        MadeRunners x = new MadeRunners(1);
        int block = Samples.block(x, Samples.row(Samples.JUMP, 0, 2), Samples.row(Samples.SET, 1, 1),
                Samples.row(Samples.JUMP, 1, 60), Samples.row(Samples.SET, 2, 2));
        bothWays(due, "no jump is done", x, block, new long[] {0, 0}, 3, 0, 0, 1, 0, 0);
        x.instruction(block, Samples.SET, 3, 3);
        bothWays(due, "a jump over one", x, block, new long[] {-1, 0}, 4, 0, -1, 0, 2, 3);
        bothWays(due, "two jumps", x, block, new long[] {1L << 32, 1L << 63}, 2, 0, 1L << 32, 1L << 63, 0, 0);
        int back = Samples.countdown(x);
        bothWays(due, "a jump back", x, back, new long[] {10, 0}, 21, 0, 0, 0, 0, -1);
        int toEnd = Samples.block(x, Samples.row(Samples.JUMP, 0, 1));
        bothWays(due, "a jump just to the end", x, toEnd, new long[] {1, 0}, 1, 0, 1, 0, 0, 0);
        x.instruction(toEnd, Samples.SET, 0, 5);
        bothWays(due, "the goal is told later", x, toEnd, new long[] {1, 0}, 2, 0, 5, 0, 0, 0);
    }

    private static void limits(Due due) {
        MadeRunners x = new MadeRunners(1);
        int even = Samples.block(x, Samples.row(Samples.SET, 3, -1), Samples.row(Samples.MOVE, 2, 1),
                Samples.row(Samples.ADD, 0, 3), Samples.row(Samples.JUMP, 0, 2));
        bothWays(due, "1998 steps", x, even, new long[] {998, 0}, 1998, 0, 0, 0, 0, -1);
        bothWays(due, "2000 steps, at the end", x, even, new long[] {999, 0}, 2000, 0, 0, 0, 0, -1);
        bothWays(due, "2000 steps, not at the end", x, even, new long[] {1000, 0}, 2000, 2, 1, 0, 0, -1);
        int odd = Samples.countdown(x);
        bothWays(due, "1999 steps", x, odd, new long[] {999, 0}, 1999, 0, 0, 0, 0, -1);
        bothWays(due, "2000 steps, the jump is left", x, odd, new long[] {1000, 0}, 2000, 2, 0, 0, 0, -1);
        x.instruction(odd, Samples.SET, 2, 9);
        bothWays(due, "2000 steps, a last SET", x, odd, new long[] {999, 0}, 2000, 0, 0, 0, 9, -1);
        x.instruction(odd, Samples.DIV, 2, 1);
        bothWays(due, "2000 steps, a DIV by 0 is left", x, odd, new long[] {999, 0}, 2000, 2, 0, 0, 9, -1);
        bothWays(due, "1998 steps and a fault", x, odd, new long[] {998, 0}, 1998, 1, 0, 0, 9, -1);
        int forEver = Samples.block(x, Samples.row(Samples.JUMP, 0, 0));
        bothWays(due, "for ever", x, forEver, new long[] {1, 2}, 2000, 2, 1, 2, 0, 0);
    }

    private static void handed(Due due, String name, long[] given, int[] bytes, long... want) {
        MadeRunners x = new MadeRunners(1);
        int block = Samples.waiting(x, bytes);
        due.is(name + " border", x.border(), 1);
        due.is(name + " steps", x.run(block, given[0], given[1]), want[0]);
        due.is(name + " ended(0)", x.ended(0), want[1]);
        Samples.registersAre(due, name, x, want[2], want[3], want[4], want[5]);
    }

    private static void alteredBytes(Due due) {
        long[] given = {20, 6};
        int[] order = {5, 7, 8};
        long[] results = {14, 3, 0};
        for (int i = 0; i < order.length; i++) {
            int[] bytes = {1, 0, 1, 1, order[i], 2, 2, 1, 0, 2, 0, 10};
            handed(due, "code " + order[i], given, bytes, 2, 0, 20, 6, results[i], 0);
        }
        int[] swap = {1, 0, 1, 1, 2, 0, 2, 1, 10};
        handed(due, "the last one first", given, swap, 2, 0, 6, 20, 0, 0);
        int[] pushes = {16, 255, 2, 3, 3, 255, 255, 255, 0, 2, 2, 10};
        handed(due, "pushes with sign", given, pushes, 2, 0, 20, 6, -256, -1);
        int[] small = {3, 0, 0, 0, 5, 2, 2, 16, 5, 2, 3, 10};
        handed(due, "a small number in four bytes", given, small, 2, 0, 20, 6, 5, 5);
        int[] fault = {16, 7, 2, 2, 1, 0, 1, 3, 7, 2, 0, 10};
        handed(due, "a fault leaves registers", given, fault, 1, 1, 20, 6, 7, 0);
        int[] leftOnPile = {1, 0, 1, 1, 1, 3, 7, 2, 0, 2, 1, 10};
        handed(due, "a fault with more on the pile", given, leftOnPile, 0, 1, 20, 6, 0, 0);
        int[] behindBranch = {16, 0, 9, 0, 0, 16, 9, 2, 2, 10};
        handed(due, "no branch at 0", given, behindBranch, 2, 0, 20, 6, 9, 0);
    }

    /** A pile of four, and the 2000th step with more on the pile and a DIV by 0 ahead. */
    private static void deep(Due due) {
        int[] four = {1, 0, 1, 1, 16, 3, 16, 4, 4, 6, 5, 2, 2, 1, 2, 2, 3, 10};
        handed(due, "20 less 6 * (3 + 4)", new long[] {20, 6}, four, 2, 0, 20, 6, -22, -22);
        int[] stopped = {
            1, 0, 1, 1, 5, 2, 0,
            1, 0, 9, 0, 0,
            1, 2, 1, 2, 1, 2, 7, 2, 2, 2, 2, 10,
        };
        handed(due, "2000 steps, a DIV by 0 ahead", new long[] {1000, 1}, stopped, 2000, 2, 0, 1, 0, 0);
        handed(due, "1998 steps, then the DIV", new long[] {999, 1}, stopped, 1998, 1, 0, 1, 0, 0);
        int[] onPile = {
            1, 2, 2, 3,
            1, 0, 1, 1, 5, 2, 0,
            1, 0, 9, 0, 4,
            1, 2, 1, 2, 2, 3, 1, 2, 7, 2, 2, 1, 2, 2, 2, 10,
        };
        handed(due, "2000 steps, one on the pile and a DIV by 0 ahead", new long[] {999, 1}, onPile, 2000, 2, 0, 1, 0, 0);
        handed(due, "1998 steps, one on the pile, then the DIV", new long[] {998, 1}, onPile, 1998, 1, 0, 1, 0, 0);
    }

    /** A fault leaves parts on the pile; the runs behind it have all the room again. */
    private static void pileIsEmptyAgain(Due due) {
        MadeRunners x = new MadeRunners(1);
        int fault = Samples.waiting(x, 1, 0, 1, 1, 1, 2, 1, 3, 7, 2, 0, 2, 0, 2, 0, 10);
        int four = Samples.waiting(x, 16, 1, 16, 2, 16, 3, 16, 4, 2, 0, 2, 1, 2, 2, 2, 3, 10);
        x.border();
        for (int i = 0; i < 3; i++) {
            due.is("a fault", x.run(fault, 8, 9) * 10 + x.ended(0), 1);
            due.is("four STOREs", x.run(four, 8, 9) * 10 + x.ended(0), 40);
            Samples.registersAre(due, "behind a fault", x, 4, 3, 2, 1);
        }
    }

    private static void wrong(Due due) {
        MadeRunners x = new MadeRunners(1);
        due.noBlock("run(0, ..)", () -> x.run(0, 0, 0));
        int block = Samples.countdown(x);
        x.run(block, 4, 5);
        due.noBlock("run(1, ..)", () -> x.run(1, 0, 0));
        due.noBlock("run(-1, ..)", () -> x.run(-1, 0, 0));
        due.is("these are no runs", x.count(6), 1);
        due.is("register(1) stays", x.register(1), 5);
        x.make(block);
        due.is("a waiting one is run as it is", x.run(block, 4, 5) * 10 + x.ended(1), 90);
        x.alter(block, 1, 254);
        due.is("whatever its bytes are", x.run(block, 4, 5) * 10 + x.ended(1), 90);
        x.border();
        due.is("altered and handed, it does other things", x.run(block, 4, 5) * 10 + x.ended(1), 51);
        x.next();
        due.is("and is run as it is when it is dropped", x.run(block, 4, 5) * 10 + x.ended(1), 90);
    }
}
