/** Promise 5: byteAt. */
final class P05ByteAtTest {
    public static void main(String[] args) {
        Passage.section("Promise 5: byteAt")
                .sentence("Byte i of a block that is made.", P05ByteAtTest::byteOfMade)
                .sentence("IllegalStateException, when it is rows;", P05ByteAtTest::rows)
                .sentence("IllegalArgumentException, when there is none.", P05ByteAtTest::noByte)
                .end();
    }

    private static void byteOfMade(Due due) {
        Counted x = Samples.withMade(Rows.set(3, -1), Rows.set(0, 128));
        int[] want = {16, 255, 2, 3, 3, 0, 0, 0, 128, 2, 0, 10};
        Samples.bytesAre(due, x, 0, want);
        x.border();
        Samples.bytesAre(due, x, 0, want);
        x.make(0);
        x.alter(0, 1, 200);
        due.is("an altered byte", x.byteAt(0, 1), 200);
        x.border();
        due.is("an altered byte, handed", x.byteAt(0, 1), 200);
        Counted longest = Samples.longest();
        due.is("byte 0 of 300", longest.byteAt(0, 0), 1);
        due.is("byte 298 of 300", longest.byteAt(0, 298), 294 - 256);
        due.is("byte 299 of 300", longest.byteAt(0, 299), 10);
        Counted end = Samples.withMade();
        due.is("byte 0 of 1", end.byteAt(0, 0), 10);
    }

    private static void rows(Due due) {
        Samples.rowsInAnyWay().forEach((kind, made) -> due.wrongState("byteAt of " + kind, made, x -> x.byteAt(0, 0)));
    }

    private static void noByte(Due due) {
        for (int i : new int[] {-1, 24, 25, 300, Integer.MAX_VALUE, Integer.MIN_VALUE}) {
            due.wrongArgument("byte " + i + " of a waiting one", Samples::busy, x -> x.byteAt(Samples.WAITS, i));
            due.wrongArgument("byte " + i + " of a handed one", Samples::busy, x -> x.byteAt(Samples.IS_HANDED, i));
        }
        due.is("byte 23 of a waiting one", Samples.busy().byteAt(Samples.WAITS, 23), 10);
        due.is("byte 23 of a handed one", Samples.busy().byteAt(Samples.IS_HANDED, 23), 10);
        due.wrongArgument("byte 300 of 300", Samples::longest, x -> x.byteAt(0, 300));
        due.wrongArgument("byte 1 of 1", () -> Samples.withMade(), x -> x.byteAt(0, 1));
        due.wrongArgument("a byte of what it was before", P05ByteAtTest::shorter, x -> x.byteAt(1, 5));
    }

    /** A long block and a short one: each has its own bytes and no more. */
    private static Counted shorter() {
        Counted x = Samples.withMade(Rows.countdown(3));
        x.make(Samples.block(x, Rows.set(0, 1)));
        return x;
    }
}
