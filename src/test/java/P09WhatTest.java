/** Promise 9: what. */
final class P09WhatTest {
    public static void main(String[] args) {
        Due due = new Due();
        MadeRunners x = new MadeRunners(8);
        int block = Samples.countdown(x);
        answers(due, x, block, 0, MadeRunners.NONE, 3, 0);
        x.next();
        x.next();
        x.make(block);
        answers(due, x, block, 1, 2, 3, 17);
        x.border();
        answers(due, x, block, 2, 2, 3, 17);
        x.next();
        answers(due, x, block, 2, 2, 3, 17);
        x.make(block);
        answers(due, x, block, 1, 3, 3, 17);
        x.instruction(block, Samples.MOVE, 0, 1);
        answers(due, x, block, 0, MadeRunners.NONE, 4, 0);
        for (int what : new int[] {-1, 4, Integer.MAX_VALUE, Integer.MIN_VALUE}) {
            due.wrongArgument("what " + what, () -> x.what(block, what));
        }
        due.noBlock("what(1, 0)", () -> x.what(1, 0));
        due.noBlock("what(-1, 4)", () -> x.what(-1, 4));
        due.noBlock("what of the highest int", () -> x.what(Integer.MAX_VALUE, -1));
        due.end();
    }

    private static void answers(Due due, MadeRunners x, int block, int... want) {
        for (int what = 0; what < 4; what++) {
            due.is("what(" + block + ", " + what + ")", x.what(block, what), want[what]);
        }
    }
}
