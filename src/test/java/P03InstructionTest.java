/** Promise 3: instruction. */
final class P03InstructionTest {
    public static void main(String[] args) {
        Passage.section("Promise 3: instruction")
                .sentence("An instruction more: how many the block has.", P03InstructionTest::howMany)
                .sentence("IllegalArgumentException, when there is no such op,", P03InstructionTest::noSuchOp)
                .sentence("a is no register,", P03InstructionTest::noRegisterA)
                .sentence("or b is no register", P03InstructionTest::noRegisterB)
                .sentence("(JUMP: below 0 or above 60;", P03InstructionTest::jumps)
                .sentence("SET: any);", P03InstructionTest::setOfAny)
                .sentence("UnsupportedOperationException, when there are sixty.", P03InstructionTest::sixty)
                .end();
    }

    private static void refused(Due due, int op, int a, int b) {
        String call = "instruction(op " + op + ", a " + a + ", b " + b + ")";
        for (int block = 0; block < Samples.BUSY_BLOCKS; block++) {
            int told = block;
            due.wrongArgument(call + " of block " + told, Samples::busy, x -> x.instruction(told, op, a, b));
        }
    }

    private static void taken(Due due, int op, int a, int b) {
        Counted x = Samples.fresh();
        due.is("instruction(op " + op + ", a " + a + ", b " + b + ")", x.instruction(x.block(), op, a, b), 1);
    }

    private static void howMany(Due due) {
        Counted x = Samples.fresh();
        Samples.blocks(x, 2);
        for (int i = 1; i <= 60; i++) {
            due.is("instruction " + i, x.instruction(1, i % 8, 0, 1), i);
            due.is("what(1, 2)", x.what(1, 2), i);
        }
        due.is("the other block has none", x.what(0, 2), 0);
        due.is("instruction of the other block", x.instruction(0, Rows.SET, 0, 1), 1);
    }

    private static void noSuchOp(Due due) {
        for (int op : new int[] {-1, 8, 9, 16, -8, 256, Integer.MAX_VALUE, Integer.MIN_VALUE}) {
            refused(due, op, 0, 0);
        }
        for (int op = 0; op <= 7; op++) {
            taken(due, op, 0, 0);
        }
    }

    private static void noRegisterA(Due due) {
        for (int op = 0; op <= 7; op++) {
            for (int a : new int[] {-1, 4, 5, 256, Integer.MAX_VALUE, Integer.MIN_VALUE}) {
                refused(due, op, a, 0);
            }
            taken(due, op, 0, 0);
            taken(due, op, 3, 0);
        }
    }

    private static void noRegisterB(Due due) {
        for (int op : new int[] {Rows.ADD, Rows.SUB, Rows.MUL, Rows.DIV, Rows.LESS, Rows.MOVE}) {
            for (int b : new int[] {-1, 4, 5, 60, 256, Integer.MAX_VALUE, Integer.MIN_VALUE}) {
                refused(due, op, 0, b);
            }
            taken(due, op, 0, 0);
            taken(due, op, 0, 3);
        }
    }

    private static void jumps(Due due) {
        for (int goal : new int[] {-1, 61, 62, 300, Integer.MAX_VALUE, Integer.MIN_VALUE}) {
            refused(due, Rows.JUMP, 0, goal);
        }
        for (int goal = 0; goal <= 60; goal++) {
            taken(due, Rows.JUMP, 3, goal);
        }
    }

    private static void setOfAny(Due due) {
        for (int number : new int[] {0, -1, 4, 61, 127, 128, -128, -129, 300, Integer.MAX_VALUE, Integer.MIN_VALUE}) {
            taken(due, Rows.SET, 0, number);
        }
    }

    private static void sixty(Due due) {
        for (int op = 0; op <= 7; op++) {
            int told = op;
            due.unsupported("the 61st, op " + op, P03InstructionTest::ofSixty, x -> x.instruction(0, told, 0, 1));
        }
        Counted x = ofSixty();
        due.is("what(0, 2)", x.what(0, 2), 60);
        due.is("run", x.run(0, 1, 2), 60);
        due.is("another block has room", x.instruction(x.block(), Rows.SET, 0, 1), 1);
        Counted y = Samples.fresh();
        Samples.block(y, Rows.repeated(59, Rows.move(0, 1)));
        due.is("the 60th", y.instruction(0, Rows.SET, 3, 8), 60);
        y.run(0, 1, 2);
        Samples.registersAre(due, "behind the 60th", y, 2, 2, 0, 8);
    }

    private static Counted ofSixty() {
        Counted x = Samples.fresh();
        Samples.block(x, Rows.repeated(60, Rows.move(0, 1)));
        return x;
    }
}
