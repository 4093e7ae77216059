/** Terms: blocks, instructions, registers, and what each instruction does. */
final class T1BlocksTest {
    private static final long LEAST = Long.MIN_VALUE;
    private static final long MOST = Long.MAX_VALUE;
    private static final long BEYOND_INT = 1L << 32;

    public static void main(String[] args) {
        Passage.paragraph("Terms", "BLOCKS, up to 24")
                .sentence("BLOCKS, up to 24,", T1BlocksTest::twentyFourBlocks)
                .sentence("have INSTRUCTIONS 0, 1, ..", T1BlocksTest::instructionsFromZero)
                .sentence("(up to 60 each),", T1BlocksTest::sixtyInstructions)
                .sentence("on REGISTERS 0 .. 3", T1BlocksTest::everyRegister)
                .sentence("of 64 bits:", T1BlocksTest::sixtyFourBits)
                .sentence("0 SET a is the number b.", T1BlocksTest::set)
                .sentence("1 ADD,", T1BlocksTest::add)
                .sentence("2 SUB,", T1BlocksTest::sub)
                .sentence("3 MUL,", T1BlocksTest::mul)
                .sentence("4 DIV (rounded to 0;", T1BlocksTest::divRoundsToZero)
                .sentence("the least number by -1 is itself)", T1BlocksTest::leastByMinusOne)
                .sentence(": a is a and register b.", T1BlocksTest::aAndItself)
                .sentence("5 LESS a is 1 when a is below register b, else 0.", T1BlocksTest::less)
                .sentence("6 JUMP to instruction b, if a is not 0", T1BlocksTest::jumpIfNotZero)
                .sentence("(b from 0 on;", T1BlocksTest::jumpToFirst)
                .sentence("beyond the last one: the end).", T1BlocksTest::jumpBeyondTheLast)
                .sentence("7 MOVE a is register b.", T1BlocksTest::move)
                .end();
    }

    private static void twentyFourBlocks(Due due) {
        Counted x = Samples.fresh();
        Samples.blocks(x, 24);
        for (int i = 0; i < 24; i++) {
            x.instruction(i, Rows.SET, 2, i + 100);
        }
        for (int i = 0; i < 24; i++) {
            due.is("run(" + i + ", 0, 0)", x.run(i, 0, 0), 1);
            due.is("register(2) behind block " + i, x.register(2), i + 100);
        }
        due.is("count(0)", x.count(0), 24);
    }

    private static void instructionsFromZero(Due due) {
        Trial.of(Rows.jump(0, 0)).given(0, 1).ends(due, 1, 0, 1, 0, 0);
        Trial.of(Rows.set(2, 5), Rows.jump(2, 3), Rows.set(2, 6), Rows.set(3, 7)).ends(due, 3, 0, 0, 5, 7);
    }

    private static void sixtyInstructions(Due due) {
        // 60 of 4 bytes and 60 that can not be made: each of the sixty is done, the last one too.
        Trial.of(Rows.repeated(59, Rows.set(2, 1), Rows.set(3, 9))).given(1, 2).ends(due, 60, 1, 2, 1, 9);
        Trial.of(Rows.repeated(59, Rows.add(0, 1), Rows.set(3, 9))).given(1, 2).ends(due, 60, 119, 2, 0, 9);
    }

    private static void everyRegister(Due due) {
        for (int a = 0; a < 4; a++) {
            for (int b = 0; b < 4; b++) {
                for (int op = Rows.ADD; op <= Rows.MOVE; op++) {
                    long[] registers = {100, 7, 11, -5};
                    boolean jumps = op == Rows.JUMP;
                    if (!jumps) {
                        registers[a] = worked(op, registers[a], registers[b]);
                    }
                    Trial.of(Rows.set(2, 11), Rows.set(3, -5), Rows.row(op, a, jumps ? 3 : b))
                            .given(100, 7).ends(due, 3, registers);
                }
            }
            long[] registers = {100, 7, 0, 0};
            registers[a] = 77;
            Trial.of(Rows.set(a, 77)).given(100, 7).ends(due, 1, registers);
        }
    }

    private static long worked(int op, long a, long b) {
        switch (op) {
            case Rows.ADD:
                return a + b;
            case Rows.SUB:
                return a - b;
            case Rows.MUL:
                return a * b;
            case Rows.DIV:
                return a / b;
            case Rows.LESS:
                return a < b ? 1 : 0;
            default:
                return b;
        }
    }

    private static void sixtyFourBits(Due due) {
        Trial.of().given(LEAST, MOST).ends(due, 0, LEAST, MOST, 0, 0);
        Trial.of(Rows.move(2, 0), Rows.move(3, 1)).given(LEAST, MOST).ends(due, 2, LEAST, MOST, LEAST, MOST);
        of(due, Rows.ADD, BEYOND_INT, BEYOND_INT, 2 * BEYOND_INT);
        of(due, Rows.SUB, BEYOND_INT, 1, 0xFFFFFFFFL);
        of(due, Rows.MUL, BEYOND_INT, 3, 3 * BEYOND_INT);
        of(due, Rows.DIV, 5 * BEYOND_INT, BEYOND_INT, 5);
        of(due, Rows.LESS, BEYOND_INT, 1, 0);
        of(due, Rows.LESS, 1, BEYOND_INT, 1);
    }

    /** Registers 0 and 1 by one instruction. */
    private static void of(Due due, int op, long x, long y, long want) {
        Trial.of(Rows.row(op, 0, 1)).given(x, y).ends(due, 1, want, y, 0, 0);
    }

    private static void set(Due due) {
        int[] numbers = {
            0, 1, -1, 126, 127, 128, 129, -127, -128, -129, -130, 255, 256, 32767, 32768, -32768, -32769, 65535, 65536,
            Integer.MAX_VALUE, Integer.MIN_VALUE, 0x01020304, 0x80818283, 0xFFFFFF00,
        };
        for (int number : numbers) {
            Trial.of(Rows.set(0, number)).given(LEAST, MOST).ends(due, 1, number, MOST, 0, 0);
            Trial.of(Rows.set(3, number)).given(LEAST, MOST).ends(due, 1, LEAST, MOST, 0, number);
        }
    }

    private static void add(Due due) {
        of(due, Rows.ADD, 5, -7, -2);
        of(due, Rows.ADD, 5, 0, 5);
        of(due, Rows.ADD, MOST, 1, LEAST);
        of(due, Rows.ADD, LEAST, -1, MOST);
        of(due, Rows.ADD, LEAST, LEAST, 0);
        of(due, Rows.ADD, MOST, LEAST, -1);
    }

    private static void sub(Due due) {
        of(due, Rows.SUB, 5, 7, -2);
        of(due, Rows.SUB, 7, 5, 2);
        of(due, Rows.SUB, LEAST, 1, MOST);
        of(due, Rows.SUB, MOST, -1, LEAST);
        of(due, Rows.SUB, 0, LEAST, LEAST);
        of(due, Rows.SUB, LEAST, LEAST, 0);
    }

    private static void mul(Due due) {
        of(due, Rows.MUL, -5, 7, -35);
        of(due, Rows.MUL, 5, 0, 0);
        of(due, Rows.MUL, 1L << 62, 4, 0);
        of(due, Rows.MUL, 1L << 62, 2, LEAST);
        of(due, Rows.MUL, MOST, 2, -2);
        of(due, Rows.MUL, LEAST, -1, LEAST);
        of(due, Rows.MUL, 3037000500L, 3037000500L, -9223372036709301616L);
    }

    private static void divRoundsToZero(Due due) {
        of(due, Rows.DIV, 7, 2, 3);
        of(due, Rows.DIV, -7, 2, -3);
        of(due, Rows.DIV, 7, -2, -3);
        of(due, Rows.DIV, -7, -2, 3);
        of(due, Rows.DIV, 1, 2, 0);
        of(due, Rows.DIV, -1, 2, 0);
        of(due, Rows.DIV, 0, 5, 0);
        of(due, Rows.DIV, 6, 3, 2);
        of(due, Rows.DIV, -6, 3, -2);
        of(due, Rows.DIV, 9, -1, -9);
        of(due, Rows.DIV, MOST, LEAST, 0);
    }

    private static void leastByMinusOne(Due due) {
        of(due, Rows.DIV, LEAST, -1, LEAST);
        of(due, Rows.DIV, LEAST, 1, LEAST);
        of(due, Rows.DIV, LEAST + 1, -1, MOST);
        of(due, Rows.DIV, LEAST, -2, 1L << 62);
        of(due, Rows.DIV, LEAST, LEAST, 1);
        of(due, Rows.DIV, Integer.MIN_VALUE, -1, 1L << 31);
    }

    private static void aAndItself(Due due) {
        long[] given = {6, 3};
        long[] want = {12, 0, 36, 1, 0};
        for (int op = Rows.ADD; op <= Rows.LESS; op++) {
            Trial.of(Rows.row(op, 0, 0)).given(given[0], given[1]).ends(due, 1, want[op - 1], 3, 0, 0);
        }
        Trial.of(Rows.sub(1, 0)).given(6, 4).ends(due, 1, 6, -2, 0, 0);
    }

    private static void less(Due due) {
        of(due, Rows.LESS, 1, 2, 1);
        of(due, Rows.LESS, 2, 2, 0);
        of(due, Rows.LESS, 3, 2, 0);
        of(due, Rows.LESS, -1, 0, 1);
        of(due, Rows.LESS, 0, -1, 0);
        of(due, Rows.LESS, LEAST, MOST, 1);
        of(due, Rows.LESS, MOST, LEAST, 0);
        of(due, Rows.LESS, LEAST, LEAST, 0);
        of(due, Rows.LESS, MOST - 1, MOST, 1);
    }

    private static void jumpIfNotZero(Due due) {
        int[][] overOne = {Rows.jump(0, 2), Rows.set(2, 4), Rows.set(3, 5)};
        Trial.of(overOne).given(0, 1).ends(due, 3, 0, 1, 4, 5);
        for (long x : new long[] {1, -1, 2, BEYOND_INT, LEAST, MOST, 256, 1L << 63}) {
            Trial.of(overOne).given(x, 0).ends(due, 2, x, 0, 0, 5);
        }
        Trial.of(Rows.countdown(0)).given(10, 0).ends(due, 21, 0, 0, 0, -1);
        // Just to the next one: nothing is left out either way.
        Trial.of(Rows.jump(0, 1), Rows.set(2, 4)).given(1, 0).ends(due, 2, 1, 0, 4, 0);
        Trial.of(Rows.jump(0, 1), Rows.set(2, 4)).given(0, 0).ends(due, 2, 0, 0, 4, 0);
    }

    private static void jumpToFirst(Due due) {
        Trial.of(Rows.sub(0, 1), Rows.jump(0, 0)).given(10, 1).ends(due, 20, 0, 1, 0, 0);
        Trial.of(Rows.jump(0, 0)).given(1, 0).stops(due, 1, 0, 0, 0);
    }

    private static void jumpBeyondTheLast(Due due) {
        for (int goal : new int[] {2, 3, 59, 60}) {
            Trial.of(Rows.jump(0, goal), Rows.set(2, 4)).given(1, 0).ends(due, 1, 1, 0, 0, 0);
        }
        Trial.of(Rows.jump(0, 1)).given(1, 0).ends(due, 1, 1, 0, 0, 0);
        int[][] toTheLast = Rows.repeated(59, Rows.jump(0, 59), Rows.set(2, 4));
        Trial.of(toTheLast).given(1, 0).ends(due, 2, 1, 0, 4, 0);
        int[][] beyondSixty = Rows.repeated(59, Rows.jump(0, 60), Rows.set(2, 4));
        Trial.of(beyondSixty).given(1, 0).ends(due, 1, 1, 0, 0, 0);
        goalIsToldLater(due);
    }

    private static void goalIsToldLater(Due due) {
        Counted x = Samples.fresh();
        int block = Samples.block(x, Rows.jump(0, 2), Rows.set(2, 4));
        due.is("run, JUMP beyond the last one", x.run(block, 1, 0), 1);
        x.instruction(block, Rows.SET, 3, 5);
        for (int way = 0; way < 2; way++) {
            due.is("run, the goal is there now", x.run(block, 1, 0), 2);
            Samples.registersAre(due, "the goal is there now", x, 1, 0, 0, 5);
            x.make(block);
            x.border();
        }
    }

    private static void move(Due due) {
        of(due, Rows.MOVE, 3, 2, 2);
        of(due, Rows.MOVE, 3, LEAST, LEAST);
        of(due, Rows.MOVE, 3, BEYOND_INT, BEYOND_INT);
        Trial.of(Rows.move(0, 0)).given(3, 2).ends(due, 1, 3, 2, 0, 0);
        Trial.of(Rows.move(1, 3)).given(3, 2).ends(due, 1, 3, 0, 0, 0);
    }
}
