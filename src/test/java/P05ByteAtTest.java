/** Promise 5: byteAt. */
final class P05ByteAtTest {
    public static void main(String[] args) {
        Due due = new Due();
        MadeRunners x = new MadeRunners(1);
        int block = Samples.countdown(x);
        due.wrongState("byteAt of rows", () -> x.byteAt(block, 0));
        due.wrongState("byteAt -1 of rows", () -> x.byteAt(block, -1));
        x.make(block);
        looked(due, x, block);
        x.alter(block, 1, 200);
        due.is("an altered byte", x.byteAt(block, 1), 200);
        x.alter(block, 1, 255);
        x.border();
        looked(due, x, block);
        due.noBlock("byteAt(1, 0)", () -> x.byteAt(1, 0));
        due.noBlock("byteAt(-1, -1)", () -> x.byteAt(-1, -1));
        x.next();
        due.wrongState("byteAt of a dropped one", () -> x.byteAt(block, 0));
        int longest = Samples.longest(x);
        x.make(longest);
        due.is("byte 299", x.byteAt(longest, 299), 10);
        due.wrongArgument("byte 300", () -> x.byteAt(longest, 300));
        due.end();
    }

    private static void looked(Due due, MadeRunners x, int block) {
        Samples.bytesAre(due, x, block, 16, 255, 2, 3, 1, 0, 1, 3, 4, 2, 0, 1, 0, 9, 0, 4, 10);
        for (int i : new int[] {-1, 17, 300, Integer.MAX_VALUE, Integer.MIN_VALUE}) {
            due.wrongArgument("byte " + i, () -> x.byteAt(block, i));
        }
    }
}
