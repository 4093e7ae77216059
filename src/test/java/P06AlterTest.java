/** Promise 6: alter. */
final class P06AlterTest {
    public static void main(String[] args) {
        Due due = new Due();
        MadeRunners x = new MadeRunners(1);
        int block = Samples.countdown(x);
        due.wrongState("alter of rows", () -> x.alter(block, 0, 0));
        due.wrongState("alter of rows, wrong byte", () -> x.alter(block, -1, 256));
        x.make(block);
        due.is("alter", x.alter(block, 1, 0), 255);
        due.is("alter", x.alter(block, 1, 255), 0);
        due.is("alter to itself", x.alter(block, 1, 255), 255);
        due.is("alter END", x.alter(block, 16, 77), 10);
        due.is("alter END back", x.alter(block, 16, 10), 77);
        for (int i : new int[] {-1, 17, 300, Integer.MAX_VALUE, Integer.MIN_VALUE}) {
            due.wrongArgument("alter byte " + i, () -> x.alter(block, i, 0));
        }
        for (int v : new int[] {-1, 256, Integer.MAX_VALUE, Integer.MIN_VALUE}) {
            due.wrongArgument("alter to " + v, () -> x.alter(block, 0, v));
        }
        Samples.bytesAre(due, x, block, 16, 255, 2, 3, 1, 0, 1, 3, 4, 2, 0, 1, 0, 9, 0, 4, 10);
        due.is("it waits still", x.what(block, 0), 1);
        due.noBlock("alter(1, ..)", () -> x.alter(1, 0, 0));
        due.noBlock("alter(-1, ..)", () -> x.alter(-1, -1, -1));
        x.border();
        due.wrongState("alter of a handed one", () -> x.alter(block, 0, 0));
        due.wrongState("alter of a handed one, wrong byte", () -> x.alter(block, 17, 256));
        due.is("nothing is altered", x.byteAt(block, 0), 16);
        due.end();
    }
}
