/** Promise 4: make. */
final class P04MakeTest {
    public static void main(String[] args) {
        Due due = new Due();
        bytesOfEach(due);
        pushes(due);
        goals(due);
        longest(due);
        again(due);
        due.end();
    }

    private static void bytesOfEach(Due due) {
        MadeRunners x = new MadeRunners(1);
        x.block();
        due.is("make of none", x.make(0), 1);
        Samples.bytesAre(due, x, 0, 10);
        for (int op = Samples.ADD; op <= Samples.LESS; op++) {
            int block = Samples.block(x, Samples.row(op, 2, 3));
            due.is("make of op " + op, x.make(block), 8);
            Samples.bytesAre(due, x, block, 1, 2, 1, 3, op + 3, 2, 2, 10);
        }
        int move = Samples.block(x, Samples.row(Samples.MOVE, 2, 3));
        due.is("make of MOVE", x.make(move), 5);
        Samples.bytesAre(due, x, move, 1, 3, 2, 2, 10);
        int jump = Samples.block(x, Samples.row(Samples.JUMP, 3, 0));
        due.is("make of JUMP", x.make(jump), 6);
        Samples.bytesAre(due, x, jump, 1, 3, 9, 0, 0, 10);
        due.noBlock("make(9)", () -> x.make(9));
        due.noBlock("make(-1)", () -> x.make(-1));
    }

    private static void pushes(Due due) {
        int[][] pushed = {
            {0, 16, 0}, {127, 16, 127}, {-128, 16, 128}, {-1, 16, 255},
            {128, 3, 0, 0, 0, 128}, {-129, 3, 255, 255, 255, 127}, {0x01020384, 3, 1, 2, 3, 132},
            {Integer.MIN_VALUE, 3, 128, 0, 0, 0}, {Integer.MAX_VALUE, 3, 127, 255, 255, 255},
        };
        MadeRunners x = new MadeRunners(1);
        for (int[] each : pushed) {
            int block = Samples.block(x, Samples.row(Samples.SET, 1, each[0]));
            int[] want = new int[each.length + 2];
            System.arraycopy(each, 1, want, 0, each.length - 1);
            want[each.length - 1] = 2;
            want[each.length] = 1;
            want[each.length + 1] = 10;
            due.is("make of SET " + each[0], x.make(block), want.length);
            Samples.bytesAre(due, x, block, want);
        }
    }

    private static void goals(Due due) {
        MadeRunners x = new MadeRunners(1);
        int block = Samples.block(x, Samples.row(Samples.JUMP, 0, 1), Samples.row(Samples.JUMP, 0, 2),
                Samples.row(Samples.JUMP, 0, 60), Samples.row(Samples.JUMP, 0, 3));
        x.make(block);
        Samples.bytesAre(due, x, block, 1, 0, 9, 0, 5, 1, 0, 9, 0, 10, 1, 0, 9, 0, 20, 1, 0, 9, 0, 15, 10);
        int later = Samples.block(x, Samples.row(Samples.JUMP, 0, 2));
        x.make(later);
        due.is("a goal beyond the last one is END", x.byteAt(later, 4), 5);
        x.instruction(later, Samples.SET, 0, 1);
        x.instruction(later, Samples.SET, 0, 2);
        x.make(later);
        due.is("the goal is there now", x.byteAt(later, 4), 9);
    }

    private static void longest(Due due) {
        MadeRunners x = new MadeRunners(2);
        int longest = Samples.longest(x);
        due.is("make of 300 bytes", x.make(longest), 300);
        due.is("it waits", x.what(longest, 0), 1);
        due.is("END", x.byteAt(longest, 299), 10);
        due.is("the goal's high byte", x.byteAt(longest, 297), 294 >> 8);
        due.is("the goal's low byte", x.byteAt(longest, 298), 294 & 255);
        int tooLong = Samples.tooLong(x);
        due.is("make of 301 bytes", x.make(tooLong), MadeRunners.NONE);
        due.is("it is rows", x.what(tooLong, 0), 0);
        due.is("of no generation", x.what(tooLong, 1), MadeRunners.NONE);
        due.is("without bytes", x.what(tooLong, 3), 0);
        x.instruction(longest, Samples.MOVE, 0, 0);
        due.is("make of 304 bytes", x.make(longest), MadeRunners.NONE);
    }

    private static void again(Due due) {
        MadeRunners x = new MadeRunners(3);
        int block = Samples.countdown(x);
        due.is("make", x.make(block), 17);
        x.alter(block, 0, 99);
        due.is("make anew", x.make(block), 17);
        due.is("what was altered is as made", x.byteAt(block, 0), 16);
        x.border();
        x.next();
        due.is("handed, generation 0", x.what(block, 0) * 10 + x.what(block, 1), 20);
        due.is("make of a handed one", x.make(block), 17);
        due.is("waits, generation 1", x.what(block, 0) * 10 + x.what(block, 1), 11);
    }
}
