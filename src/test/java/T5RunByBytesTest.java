/** Terms: a run by bytes, also of bytes that no rows have. */
final class T5RunByBytesTest {
    public static void main(String[] args) {
        Passage.paragraph("Terms", "RUN BY BYTES:")
                .sentence("RUN BY BYTES: LOAD, PUSH put on a pile,", T5RunByBytesTest::loadAndPush)
                .sentence("others take from it, the last one first", T5RunByBytesTest::lastOneFirst)
                .sentence("(SUB, DIV, LESS: the second one less, by, below the first one taken);", T5RunByBytesTest::secondByFirst)
                .sentence("BRANCH when what it takes is not 0.", T5RunByBytesTest::branch)
                .sentence("Each STORE and BRANCH that is done is a step;", T5RunByBytesTest::steps)
                .sentence("DIV by 0 is a fault;", T5RunByBytesTest::fault)
                .sentence("STOPPED as above.", T5RunByBytesTest::stopped)
                .end();
    }

    private static void loadAndPush(Due due) {
        for (int r = 0; r < 4; r++) {
            long[] registers = {20, 6, 3, 4};
            Trial.bytes("PUSH1 3, STORE 2, PUSH1 4, STORE 3, LOAD " + r + ", STORE 0, END").given(20, 6)
                    .ends(due, 3, registers[r], 6, 3, 4);
        }
        int[] ofOne = {0, 1, 127, 128, 129, 255};
        for (int v : ofOne) {
            Trial.bytes("PUSH1 " + v + ", STORE 2, END").ends(due, 1, 0, 0, v < 128 ? v : v - 256, 0);
        }
        pushed(due, "0 0 0 0", 0);
        pushed(due, "0 0 0 5", 5);
        pushed(due, "0 0 0 255", 255);
        pushed(due, "255 255 255 255", -1);
        pushed(due, "255 255 255 128", -128);
        pushed(due, "128 0 0 0", Integer.MIN_VALUE);
        pushed(due, "127 255 255 255", Integer.MAX_VALUE);
        pushed(due, "1 2 3 4", 0x01020304);
        pushed(due, "10 9 16 7", 0x0A091007);
    }

    private static void pushed(Due due, String bytes, long want) {
        Trial.bytes("PUSH4 " + bytes + ", STORE 2, END").given(7, 8).ends(due, 1, 7, 8, want, 0);
    }

    private static void lastOneFirst(Due due) {
        Trial.bytes("LOAD 0, LOAD 1, STORE 0, STORE 1, END").given(20, 6).ends(due, 2, 6, 20, 0, 0);
        Trial.bytes("PUSH1 1, PUSH1 2, PUSH1 3, PUSH1 4, STORE 0, STORE 1, STORE 2, STORE 3, END").ends(due, 4, 4, 3, 2, 1);
        // 20 less 6 * (3 + 4): four on the pile, and all of them are taken.
        Trial.bytes("LOAD 0, LOAD 1, PUSH1 3, PUSH1 4, ADD, MUL, SUB, STORE 2, LOAD 2, STORE 3, END").given(20, 6)
                .ends(due, 2, 20, 6, -22, -22);
        Trial.bytes("LOAD 0, LOAD 1, LOAD 2, ADD, STORE 2, STORE 3, END").given(20, 6).ends(due, 2, 20, 6, 6, 20);
        // Behind a BRANCH that leads nowhere, and one that leads on, there is room for four again.
        String four = "PUSH1 1, PUSH1 2, PUSH1 3, PUSH1 4, STORE 0, STORE 1, STORE 2, STORE 3, ";
        Trial.bytes("LOAD 2, BRANCH 0 0, " + four + "END").ends(due, 5, 4, 3, 2, 1);
        Trial.bytes("LOAD 0, BRANCH 0 5, " + four + "END").given(1, 0).ends(due, 5, 4, 3, 2, 1);
        Trial.bytes(four + four + "END").ends(due, 8, 4, 3, 2, 1);
        emptyAtFirst(due);
    }

    /** A fault leaves parts on the pile; the runs behind it have all the room again. */
    private static void emptyAtFirst(Due due) {
        Counted x = Samples.fresh();
        int fault = Samples.waiting(x, Codes.of("LOAD 0, LOAD 1, LOAD 2, LOAD 3, DIV, STORE 0, STORE 0, STORE 0, END"));
        int four = Samples.waiting(x,
                Codes.of("PUSH1 1, PUSH1 2, PUSH1 3, PUSH1 4, STORE 0, STORE 1, STORE 2, STORE 3, END"));
        x.border();
        for (int i = 0; i < 3; i++) {
            due.is("run, a fault", x.run(fault, 8, 9), 0);
            due.is("ended(0)", x.ended(0), 1);
            due.is("run, four STOREs", x.run(four, 8, 9), 4);
            due.is("ended(0)", x.ended(0), 0);
            Samples.registersAre(due, "behind a fault", x, 4, 3, 2, 1);
        }
    }

    private static void secondByFirst(Due due) {
        byCode(due, "SUB", 20, 6, 14);
        byCode(due, "SUB", 6, 20, -14);
        byCode(due, "SUB", Long.MIN_VALUE, 1, Long.MAX_VALUE);
        byCode(due, "DIV", 20, 6, 3);
        byCode(due, "DIV", -20, 6, -3);
        byCode(due, "DIV", 6, 20, 0);
        byCode(due, "DIV", Long.MIN_VALUE, -1, Long.MIN_VALUE);
        byCode(due, "DIV", 0, 5, 0);
        byCode(due, "LESS", 6, 20, 1);
        byCode(due, "LESS", 20, 6, 0);
        byCode(due, "LESS", 6, 6, 0);
        byCode(due, "LESS", Long.MIN_VALUE, Long.MAX_VALUE, 1);
        byCode(due, "ADD", Long.MAX_VALUE, 1, Long.MIN_VALUE);
        byCode(due, "MUL", 1L << 62, 4, 0);
    }

    private static void byCode(Due due, String code, long x, long y, long want) {
        Trial.bytes("LOAD 0, LOAD 1, " + code + ", STORE 2, LOAD 2, STORE 3, END").given(x, y).ends(due, 2, x, y, want, want);
    }

    private static void branch(Due due) {
        String overOne = "LOAD 0, BRANCH 0 9, PUSH1 4, STORE 2, PUSH1 5, STORE 3, END";
        Trial.bytes(overOne).given(0, 0).ends(due, 3, 0, 0, 4, 5);
        for (long x : new long[] {1, -1, 256, 1L << 32, Long.MIN_VALUE}) {
            Trial.bytes(overOne).given(x, 0).ends(due, 2, x, 0, 0, 5);
        }
        Trial.bytes("LOAD 0, BRANCH 0 5, END").given(1, 0).ends(due, 1, 1, 0, 0, 0);
        Trial.bytes("PUSH1 0, BRANCH 0 0, PUSH1 9, STORE 2, END").given(1, 0).ends(due, 2, 1, 0, 9, 0);
        // Back to byte 0 while register 0 is not 0.
        Trial.bytes("LOAD 0, LOAD 1, SUB, STORE 0, LOAD 0, BRANCH 0 0, END").given(10, 1).ends(due, 20, 0, 1, 0, 0);
    }

    private static void steps(Due due) {
        Trial.bytes("END").given(3, 4).ends(due, 0, 3, 4, 0, 0);
        // A BRANCH is done whether it leads elsewhere or not.
        Trial.bytes("LOAD 0, BRANCH 0 5, END").given(0, 0).ends(due, 1, 0, 0, 0, 0);
        Trial.bytes("LOAD 0, BRANCH 0 5, LOAD 0, BRANCH 0 10, END").given(3, 0).ends(due, 2, 3, 0, 0, 0);
        Trial.bytes("LOAD 0, LOAD 0, LOAD 0, LOAD 0, ADD, ADD, ADD, STORE 0, END").given(3, 0).ends(due, 1, 12, 0, 0, 0);
        Trial.bytes("LOAD 0, LOAD 0, LOAD 0, STORE 1, STORE 2, STORE 3, END").given(3, 0).ends(due, 3, 3, 3, 3, 3);
    }

    private static void fault(Due due) {
        Trial.bytes("PUSH1 7, STORE 2, LOAD 0, LOAD 3, DIV, STORE 0, END").given(20, 6).faults(due, 1, 20, 6, 7, 0);
        Trial.bytes("LOAD 0, PUSH1 0, DIV, STORE 0, END").given(20, 6).faults(due, 0, 20, 6, 0, 0);
        Trial.bytes("LOAD 0, LOAD 1, LOAD 3, DIV, STORE 0, STORE 1, END").given(20, 6).faults(due, 0, 20, 6, 0, 0);
        // By what was taken first; a 0 that is taken second is no fault.
        Trial.bytes("PUSH1 0, LOAD 0, DIV, STORE 2, END").given(20, 6).ends(due, 1, 20, 6, 0, 0);
        Trial.bytes("LOAD 0, LOAD 1, DIV, STORE 2, END").given(20, 1L << 32).ends(due, 1, 20, 1L << 32, 0, 0);
        Trial.bytes("LOAD 0, BRANCH 0 12, LOAD 0, PUSH1 0, DIV, STORE 0, END").given(20, 6).ends(due, 1, 20, 6, 0, 0);
    }

    private static void stopped(Due due) {
        Trial.bytes("LOAD 0, BRANCH 0 0, END").given(1, 0).stops(due, 1, 0, 0, 0);
        String counts = "LOAD 0, LOAD 1, SUB, STORE 0, LOAD 0, BRANCH 0 0, ";
        Trial.bytes(counts + "END").given(999, 1).ends(due, 1998, 0, 1, 0, 0);
        // With 2000 steps done it is at the end, by a BRANCH that leads nowhere, a STORE, and a BRANCH to END.
        Trial.bytes(counts + "END").given(1000, 1).ends(due, 2000, 0, 1, 0, 0);
        Trial.bytes(counts + "LOAD 1, STORE 2, LOAD 1, STORE 3, END").given(999, 1).ends(due, 2000, 0, 1, 1, 1);
        Trial.bytes(counts + "LOAD 1, STORE 2, LOAD 1, BRANCH 0 25, LOAD 1, STORE 3, END").given(999, 1)
                .ends(due, 2000, 0, 1, 1, 0);
        // With 2000 done it is not: before a STORE, a BRANCH, and with one more to do on the pile.
        Trial.bytes(counts + "LOAD 1, STORE 2, END").given(1000, 1).stops(due, 0, 1, 0, 0);
        Trial.bytes(counts + "LOAD 1, BRANCH 0 17, END").given(1000, 1).stops(due, 0, 1, 0, 0);
        Trial.bytes(counts + "LOAD 1, LOAD 1, STORE 2, STORE 3, END").given(1000, 1).stops(due, 0, 1, 0, 0);
        Trial.bytes(counts + "LOAD 1, STORE 2, LOAD 1, LOAD 1, STORE 3, STORE 2, END").given(999, 1).stops(due, 0, 1, 1, 1);
        Trial.bytes(counts + "END").given(1001, 1).stops(due, 1, 1, 0, 0);
        // Codes that are no steps do not count, however many they are: 90 times PUSH and SUB for two steps.
        Trial.bytes("LOAD 0, " + "PUSH1 1, SUB, ".repeat(90) + "STORE 0, LOAD 1, BRANCH 0 0, END").given(0, 1)
                .stops(due, -90_000, 1, 0, 0);
        Trial.bytes("LOAD 0, " + "PUSH1 1, SUB, ".repeat(90) + "STORE 0, LOAD 0, BRANCH 0 0, END").given(90_000, 1)
                .ends(due, 2000, 0, 1, 0, 0);
        // A DIV by 0 ahead is one that is not come to.
        Trial.bytes(counts + "LOAD 1, LOAD 2, DIV, STORE 2, END").given(1000, 1).stops(due, 0, 1, 0, 0);
        Trial.bytes(counts + "LOAD 1, LOAD 2, DIV, STORE 2, END").given(999, 1).faults(due, 1998, 0, 1, 0, 0);
        Trial.bytes(counts + "LOAD 1, LOAD 1, LOAD 2, STORE 3, LOAD 2, DIV, STORE 2, STORE 2, END").given(1000, 1)
                .stops(due, 0, 1, 0, 0);
        Trial.bytes(counts + "LOAD 1, LOAD 1, LOAD 2, STORE 3, LOAD 2, DIV, STORE 2, STORE 2, END").given(999, 1)
                .faults(due, 1999, 0, 1, 0, 0);
    }
}
