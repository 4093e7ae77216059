import java.util.Random;

/** What it is: both ways do the same, and for how many calls an object is used. */
final class WhatItIsTest {
    public static void main(String[] args) {
        Passage.section("What it is")
                .sentence("Blocks of instructions on four registers, run as they are, or as bytes that were made of them:",
                        WhatItIsTest::runEitherWay)
                .sentence("made, checked, handed over at borders, dropped with their generation;", WhatItIsTest::lifeOfABlock)
                .sentence("both ways do the same,", WhatItIsTest::bothWays)
                .sentence("unless bytes were altered.", WhatItIsTest::altered)
                .sentence("An object is used for at most 512 calls after it has been made; what later calls answer is free.",
                        WhatItIsTest::upTo512Calls)
                .end();
    }

    private static void runEitherWay(Due due) {
        Trial.of(Rows.set(2, 3), Rows.mul(2, 0), Rows.add(2, 1), Rows.move(3, 2)).given(5, 4).ends(due, 4, 5, 4, 19, 19);
    }

    private static void lifeOfABlock(Due due) {
        Counted x = Samples.fresh();
        int block = Samples.countdown(x);
        due.is("make", x.make(block), 17);
        due.is("check", x.check(block), 0);
        due.is("border", x.border(), 1);
        due.is("next", x.next(), 1);
        due.is("what(0, 0)", x.what(block, 0), 0);
    }

    /** Blocks that are drawn, with all ops, jumps forward and back, and numbers of both lengths. */
    private static void bothWays(Due due) {
        Random random = new Random(6);
        long[] numbers = {0, 1, -1, 5, Long.MIN_VALUE, Long.MAX_VALUE, 1L << 32};
        for (int i = 0; i < 600; i++) {
            Counted x = Samples.fresh();
            int block = Samples.block(x, drawn(random, 1 + random.nextInt(40)));
            if (x.make(block) < 0) {
                continue;
            }
            for (int j = 0; j < 8; j++) {
                long first = numbers[random.nextInt(numbers.length)];
                long second = numbers[random.nextInt(numbers.length)];
                String byRows = left(x, block, first, second);
                due.is("same, waiting", x.same(block, first, second), true);
                x.border();
                due.is("same, handed", x.same(block, first, second), true);
                due.reads("run by bytes", left(x, block, first, second), byRows);
                x.make(block);
            }
        }
    }

    private static String left(Counted x, int block, long first, long second) {
        return x.run(block, first, second) + " " + x.ended(0) + " " + x.register(0) + " " + x.register(1) + " "
                + x.register(2) + " " + x.register(3);
    }

    private static int[][] drawn(Random random, int size) {
        int[][] rows = new int[size][];
        for (int i = 0; i < size; i++) {
            int op = random.nextInt(8);
            int b = op == Rows.SET ? random.nextInt(600) - 300 : op == Rows.JUMP ? random.nextInt(size + 2) : random.nextInt(4);
            rows[i] = Rows.row(op, random.nextInt(4), b);
        }
        return rows;
    }

    private static void altered(Due due) {
        Counted x = Samples.withMade(Rows.set(2, 5));
        due.is("same, as made", x.same(0, 0, 0), true);
        x.alter(0, 1, 6);
        due.is("same, altered", x.same(0, 0, 0), false);
        x.alter(0, 1, 5);
        due.is("same, altered back", x.same(0, 0, 0), true);
    }

    private static void upTo512Calls(Due due) {
        manyGenerations(due);
        manyRuns(due);
        manyBlocks(due);
        manyRefused(due);
        manyBorders(due);
    }

    private static void manyGenerations(Due due) {
        for (int limit = 1; limit <= 8; limit++) {
            Counted x = new Counted(limit);
            x.block();
            while (x.callsLeft() > 5) {
                x.next();
            }
            due.is("make", x.make(0), 1);
            due.is("what(0, 1)", x.what(0, 1), 506);
            due.is("count(1)", x.count(1), 506);
            due.is("count(2)", x.count(2), 507 - limit);
            due.is("the 512th call, next()", x.next(), limit == 1 ? 1 : 0);
            due.is("calls left", x.callsLeft(), 0);
        }
    }

    private static void manyRuns(Due due) {
        Counted x = Samples.fresh();
        int block = Samples.block(x, Rows.jump(0, 0));
        for (int i = 1; x.callsLeft() > 2; i++) {
            due.is("run " + i, x.run(block, i, 0), 2000);
        }
        due.is("count(6)", x.count(6), 508);
        due.is("the 512th call, count(7)", x.count(7), 508 * 2000);
    }

    private static void manyBlocks(Due due) {
        Counted x = Samples.fresh();
        Samples.blocks(x, 24);
        for (int i = 0; x.callsLeft() > 2; i++) {
            due.is("instruction", x.instruction(i % 24, Rows.MOVE, 0, 1), i / 24 + 1);
        }
        due.is("make(0)", x.make(0), 21 * 4 + 1);
        due.is("the 512th call, byteAt(0, 84)", x.byteAt(0, 84), 10);
    }

    private static void manyRefused(Due due) {
        Counted x = Samples.fresh();
        int refused = 0;
        while (x.callsLeft() > 1) {
            try {
                x.make(0);
            } catch (IndexOutOfBoundsException e) {
                refused++;
            }
        }
        due.is("refused calls", refused, 511);
        due.is("the 512th call, block()", x.block(), 0);
    }

    private static void manyBorders(Due due) {
        Counted x = Samples.fresh();
        x.block();
        int told = 0;
        while (x.callsLeft() > 4) {
            x.make(0);
            x.alter(0, 0, 255);
            due.is("border() with a wrong one", x.border(), 0);
            told++;
        }
        due.is("make", x.make(0), 1);
        due.is("border()", x.border(), 1);
        due.is("the last call but one, count(5)", x.count(5), told);
        due.is("the 512th call, count(3)", x.count(3), 1);
    }
}
