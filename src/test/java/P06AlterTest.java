/** Promise 6: alter. */
final class P06AlterTest {
    public static void main(String[] args) {
        Passage.section("Promise 6: alter")
                .sentence("Byte i of a waiting block is another one:", P06AlterTest::isAnother)
                .sentence("the one before.", P06AlterTest::theOneBefore)
                .sentence("IllegalStateException, when it does not wait;", P06AlterTest::doesNotWait)
                .sentence("IllegalArgumentException, when there is no such byte,", P06AlterTest::noSuchByte)
                .sentence("or v is not 0 .. 255.", P06AlterTest::notAByte)
                .end();
    }

    private static void isAnother(Due due) {
        for (int i = 0; i < 24; i++) {
            Counted x = Samples.busy();
            int[] want = Codes.of("PUSH1 255, STORE 2, LOAD 0, LOAD 3, ADD, STORE 0, LOAD 0, BRANCH 0 4, "
                    + "LOAD 2, LOAD 1, DIV, STORE 2, END");
            x.alter(Samples.WAITS, i, 77);
            want[i] = 77;
            Samples.bytesAre(due, x, Samples.WAITS, want);
            Samples.blockIs(due, "it waits still", x, Samples.WAITS, 1, 1, 4, 24);
            due.is("a byte of another block", x.byteAt(Samples.IS_HANDED, i) == 77, false);
        }
        Counted x = Samples.longest();
        x.alter(0, 299, 200);
        due.is("byte 299 of 300", x.byteAt(0, 299), 200);
        due.is("byte 298 of 300", x.byteAt(0, 298), 294 - 256);
    }

    private static void theOneBefore(Due due) {
        Counted x = Samples.withMade(Rows.set(3, -1));
        due.is("alter to 0", x.alter(0, 1, 0), 255);
        due.is("alter to 128", x.alter(0, 1, 128), 0);
        due.is("alter to itself", x.alter(0, 1, 128), 128);
        due.is("alter to 255", x.alter(0, 1, 255), 128);
        due.is("alter the first byte", x.alter(0, 0, 1), 16);
        due.is("alter the last byte", x.alter(0, 4, 7), 10);
        due.is("alter the last byte again", x.alter(0, 4, 10), 7);
    }

    private static void doesNotWait(Due due) {
        Samples.rowsInAnyWay().forEach((kind, made) -> due.wrongState("alter of " + kind, made, x -> x.alter(0, 0, 0)));
        due.wrongState("alter of a handed one", Samples::busy, x -> x.alter(Samples.IS_HANDED, 0, 0));
        due.wrongState("alter of a handed one, to itself", Samples::busy, x -> x.alter(Samples.IS_HANDED, 0, 16));
        Counted x = Samples.withHanded(Rows.set(0, 1));
        x.make(0);
        due.is("a handed one that is made anew waits", x.alter(0, 0, 0), 16);
    }

    private static void noSuchByte(Due due) {
        for (int i : new int[] {-1, 24, 25, 299, 300, Integer.MAX_VALUE, Integer.MIN_VALUE}) {
            due.wrongArgument("alter byte " + i, Samples::busy, x -> x.alter(Samples.WAITS, i, 0));
        }
        due.is("alter byte 23, the last one", Samples.busy().alter(Samples.WAITS, 23, 0), 10);
        due.wrongArgument("alter byte 300 of 300", Samples::longest, x -> x.alter(0, 300, 0));
        due.wrongArgument("alter byte 1 of 1", () -> Samples.withMade(), x -> x.alter(0, 1, 0));
        due.is("alter byte 0 of 1", Samples.withMade().alter(0, 0, 0), 10);
    }

    private static void notAByte(Due due) {
        for (int v : new int[] {-1, 256, 257, -128, 65536, Integer.MAX_VALUE, Integer.MIN_VALUE}) {
            due.wrongArgument("alter to " + v, Samples::busy, x -> x.alter(Samples.WAITS, 0, v));
            due.wrongArgument("alter the last one to " + v, Samples::busy, x -> x.alter(Samples.WAITS, 23, v));
        }
        Counted x = Samples.withMade(Rows.set(0, 1));
        int before = 1;
        for (int v = 0; v <= 255; v++) {
            due.is("alter to " + v, x.alter(0, 1, v), before);
            before = v;
        }
        due.is("byteAt(0, 1)", x.byteAt(0, 1), 255);
    }
}
