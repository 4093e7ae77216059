/** Promise 3: instruction. */
final class P03InstructionTest {
    public static void main(String[] args) {
        Due due = new Due();
        sixty(due);
        arguments(due);
        becomesRows(due);
        firstException(due);
        due.end();
    }

    private static void sixty(Due due) {
        MadeRunners x = new MadeRunners(1);
        x.block();
        for (int i = 1; i <= 60; i++) {
            due.is("instruction " + i, x.instruction(0, Samples.MOVE, 0, 1), i);
        }
        due.refuses("the 61st", UnsupportedOperationException.class, () -> x.instruction(0, Samples.MOVE, 0, 1));
        due.is("what(0, 2)", x.what(0, 2), 60);
        due.is("run(0, 1, 2)", x.run(0, 1, 2), 60);
    }

    private static void arguments(Due due) {
        MadeRunners x = new MadeRunners(1);
        x.block();
        for (int op : new int[] {-1, 8, 16, Integer.MAX_VALUE, Integer.MIN_VALUE}) {
            due.wrongArgument("op " + op, () -> x.instruction(0, op, 0, 0));
        }
        for (int op = 0; op < 8; op++) {
            wrongRegisters(due, x, op);
        }
        due.is("none of these is there", x.what(0, 2), 0);
        due.is("SET of any", x.instruction(0, Samples.SET, 3, Integer.MIN_VALUE), 1);
        due.is("SET of any", x.instruction(0, Samples.SET, 0, Integer.MAX_VALUE), 2);
        due.is("JUMP 0", x.instruction(0, Samples.JUMP, 3, 0), 3);
        due.is("JUMP 60", x.instruction(0, Samples.JUMP, 0, 60), 4);
        int there = 4;
        for (int op : new int[] {1, 2, 3, 4, 5, 7}) {
            due.is("op " + op + " of 3", x.instruction(0, op, 3, 3), ++there);
            due.is("op " + op + " of 0", x.instruction(0, op, 0, 0), ++there);
        }
    }

    private static void wrongRegisters(Due due, MadeRunners x, int op) {
        for (int r : new int[] {-1, 4, Integer.MAX_VALUE, Integer.MIN_VALUE}) {
            due.wrongArgument("op " + op + ", a " + r, () -> x.instruction(0, op, r, 0));
            if (op != Samples.SET && op != Samples.JUMP) {
                due.wrongArgument("op " + op + ", b " + r, () -> x.instruction(0, op, 0, r));
            }
        }
        for (int goal : new int[] {-1, 61, Integer.MAX_VALUE, Integer.MIN_VALUE}) {
            due.wrongArgument("JUMP to " + goal, () -> x.instruction(0, Samples.JUMP, 0, goal));
        }
    }

    private static void becomesRows(Due due) {
        MadeRunners x = new MadeRunners(1);
        int waiting = Samples.countdown(x);
        int handed = Samples.countdown(x);
        x.make(handed);
        x.border();
        x.make(waiting);
        due.wrongArgument("a wrong one", () -> x.instruction(waiting, 8, 0, 0));
        due.wrongArgument("a wrong one", () -> x.instruction(handed, 8, 0, 0));
        due.is("it waits still", x.what(waiting, 0), 1);
        due.is("it is handed still", x.what(handed, 0), 2);
        x.instruction(waiting, Samples.SET, 0, 1);
        x.instruction(handed, Samples.SET, 0, 1);
        for (int block : new int[] {waiting, handed}) {
            due.is("rows: what(0)", x.what(block, 0), 0);
            due.is("rows: what(1)", x.what(block, 1), MadeRunners.NONE);
            due.is("rows: what(2)", x.what(block, 2), 4);
            due.is("rows: what(3)", x.what(block, 3), 0);
        }
    }

    private static void firstException(Due due) {
        MadeRunners x = new MadeRunners(1);
        x.block();
        Samples.repeat(x, 0, 60, Samples.row(Samples.SET, 0, 0));
        due.wrongArgument("wrong op and sixty", () -> x.instruction(0, 8, 0, 0));
        due.wrongArgument("wrong a and sixty", () -> x.instruction(0, 1, 4, 0));
        due.noBlock("no block and wrong op", () -> x.instruction(1, 8, 0, 0));
        due.noBlock("block -1", () -> x.instruction(-1, 0, 0, 0));
        x.make(0);
        int before = x.what(0, 0);
        due.refuses("sixty", UnsupportedOperationException.class, () -> x.instruction(0, 0, 0, 0));
        due.is("it stays what it is", x.what(0, 0), before);
    }
}
