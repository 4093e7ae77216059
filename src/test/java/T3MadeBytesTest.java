/** Terms: the bytes that are made of a block. */
final class T3MadeBytesTest {
    public static void main(String[] args) {
        Passage.paragraph("Terms", "MADE BYTES")
                .sentence("MADE BYTES of a block: of each instruction in turn CODES:", T3MadeBytesTest::inTurn)
                .sentence("SET: PUSH, STORE a.", T3MadeBytesTest::set)
                .sentence("ADD to LESS: LOAD a, LOAD b, the code, STORE a.", T3MadeBytesTest::addToLess)
                .sentence("JUMP: LOAD a, BRANCH.", T3MadeBytesTest::jump)
                .sentence("MOVE: LOAD b, STORE a.", T3MadeBytesTest::move)
                .sentence("Behind all: END.", T3MadeBytesTest::endBehindAll)
                .sentence("CODES are: 1 LOAD, 2 STORE (a byte with the register behind it),", T3MadeBytesTest::loadAndStore)
                .sentence("3 PUSH (four bytes, the highest first;", T3MadeBytesTest::pushOfFour)
                .sentence("for numbers that are not -128 .. 127),", T3MadeBytesTest::notInOneByte)
                .sentence("4 ADD, 5 SUB, 6 MUL, 7 DIV, 8 LESS,", T3MadeBytesTest::numbersOfCodes)
                .sentence("9 BRANCH (two bytes, the highest first:", T3MadeBytesTest::branchOfTwo)
                .sentence("the byte where the first code of the instruction stands,", T3MadeBytesTest::branchToInstruction)
                .sentence("or END),", T3MadeBytesTest::branchToEnd)
                .sentence("10 END,", T3MadeBytesTest::numberOfEnd)
                .sentence("16 PUSH (one byte, with sign).", T3MadeBytesTest::pushOfOne)
                .sentence("A block of more than 300 bytes can not be made.", T3MadeBytesTest::threeHundred)
                .end();
    }

    private static void made(Due due, String want, int[]... rows) {
        int[] bytes = Codes.of(want);
        Counted x = Samples.fresh();
        int block = Samples.block(x, rows);
        due.is("make, due is " + want, x.make(block), bytes.length);
        Samples.bytesAre(due, x, block, bytes);
    }

    private static void inTurn(Due due) {
        made(due, "PUSH1 1, STORE 0, LOAD 2, STORE 3, LOAD 0, LOAD 1, SUB, STORE 0, LOAD 1, BRANCH 0 4, END",
                Rows.set(0, 1), Rows.move(3, 2), Rows.sub(0, 1), Rows.jump(1, 1));
        made(due, "LOAD 1, BRANCH 0 12, LOAD 0, LOAD 1, SUB, STORE 0, LOAD 2, STORE 3, PUSH1 1, STORE 0, END",
                Rows.jump(1, 2), Rows.sub(0, 1), Rows.move(3, 2), Rows.set(0, 1));
    }

    private static void set(Due due) {
        for (int a = 0; a < 4; a++) {
            made(due, "PUSH1 5, STORE " + a + ", END", Rows.set(a, 5));
            made(due, "PUSH4 0 0 1 44, STORE " + a + ", END", Rows.set(a, 300));
        }
    }

    private static void addToLess(Due due) {
        String[] codes = {"ADD", "SUB", "MUL", "DIV", "LESS"};
        for (int op = Rows.ADD; op <= Rows.LESS; op++) {
            for (int a = 0; a < 4; a++) {
                for (int b = 0; b < 4; b++) {
                    String want = "LOAD " + a + ", LOAD " + b + ", " + codes[op - Rows.ADD] + ", STORE " + a + ", END";
                    made(due, want, Rows.row(op, a, b));
                }
            }
        }
    }

    private static void jump(Due due) {
        for (int a = 0; a < 4; a++) {
            made(due, "LOAD " + a + ", BRANCH 0 0, END", Rows.jump(a, 0));
        }
    }

    private static void move(Due due) {
        for (int a = 0; a < 4; a++) {
            for (int b = 0; b < 4; b++) {
                made(due, "LOAD " + b + ", STORE " + a + ", END", Rows.move(a, b));
            }
        }
    }

    private static void endBehindAll(Due due) {
        made(due, "END");
        made(due, "LOAD 0, STORE 0, LOAD 0, STORE 0, END", Rows.move(0, 0), Rows.move(0, 0));
    }

    private static void loadAndStore(Due due) {
        made(due, "1 3 2 0 10", Rows.move(0, 3));
        made(due, "1 0 2 3 10", Rows.move(3, 0));
    }

    private static void pushOfFour(Due due) {
        made(due, "3 1 2 3 132 2 1 10", Rows.set(1, 0x01020384));
        made(due, "3 128 0 0 0 2 1 10", Rows.set(1, Integer.MIN_VALUE));
        made(due, "3 127 255 255 255 2 1 10", Rows.set(1, Integer.MAX_VALUE));
        made(due, "3 255 255 0 0 2 1 10", Rows.set(1, -65536));
    }

    private static void notInOneByte(Due due) {
        made(due, "3 0 0 0 128 2 1 10", Rows.set(1, 128));
        made(due, "3 255 255 255 127 2 1 10", Rows.set(1, -129));
        made(due, "3 0 0 0 255 2 1 10", Rows.set(1, 255));
        made(due, "3 0 0 1 0 2 1 10", Rows.set(1, 256));
        made(due, "16 127 2 1 10", Rows.set(1, 127));
        made(due, "16 128 2 1 10", Rows.set(1, -128));
    }

    private static void numbersOfCodes(Due due) {
        for (int op = Rows.ADD; op <= Rows.LESS; op++) {
            made(due, "1 2 1 3 " + (op + 3) + " 2 2 10", Rows.row(op, 2, 3));
        }
    }

    private static void branchOfTwo(Due due) {
        // Bytes 255 and 256 are where the high byte changes.
        Counted x = Samples.fresh();
        int low = Samples.block(x, Rows.repeated(35, Rows.add(2, 2), Rows.jump(2, 0), Rows.jump(2, 0), Rows.jump(2, 37)));
        due.is("make", x.make(low), 261);
        goalIs(due, x, low, 255 + 2, 0, 255);
        int high = Samples.block(x, Rows.repeated(36, Rows.add(2, 2), Rows.move(2, 2), Rows.jump(2, 37)));
        due.is("make", x.make(high), 262);
        goalIs(due, x, high, 256 + 2, 1, 0);
        int[][] loop = Rows.repeated(36, Rows.add(2, 2), Rows.set(3, -1), Rows.add(0, 3), Rows.jump(0, 37));
        Trial.of(loop).given(20, 0).ends(due, 77, 0, 0, 0, -1);
    }

    private static void goalIs(Due due, Counted x, int block, int branch, int first, int second) {
        due.is("BRANCH at " + branch, x.byteAt(block, branch), 9);
        due.is("its first byte", x.byteAt(block, branch + 1), first);
        due.is("its second byte", x.byteAt(block, branch + 2), second);
    }

    private static void branchToInstruction(Due due) {
        // Of 4, 7, 7, 5 and 4 bytes: each has its own length.
        int[] starts = {0, 4, 11, 18, 23, 27};
        for (int goal = 0; goal < starts.length; goal++) {
            made(due, "PUSH1 1, STORE 0, PUSH4 0 0 1 0, STORE 0, LOAD 0, LOAD 1, ADD, STORE 0, LOAD 0, BRANCH 0 0, "
                            + "LOAD 1, STORE 0, LOAD 3, BRANCH 0 " + starts[goal] + ", END",
                    Rows.set(0, 1), Rows.set(0, 256), Rows.add(0, 1), Rows.jump(0, 0), Rows.move(0, 1), Rows.jump(3, goal));
        }
    }

    private static void branchToEnd(Due due) {
        for (int goal : new int[] {2, 3, 59, 60}) {
            made(due, "LOAD 0, BRANCH 0 9, LOAD 1, STORE 0, END", Rows.jump(0, goal), Rows.move(0, 1));
        }
        Counted x = Samples.withMade(Rows.jump(0, 2));
        due.is("a goal that is not there is END", x.byteAt(0, 4), 5);
        x.instruction(0, Rows.MOVE, 0, 1);
        x.instruction(0, Rows.MOVE, 0, 1);
        x.make(0);
        due.is("the goal is there now", x.byteAt(0, 4), 9);
        Counted longest = Samples.withMade(Rows.repeated(42, Rows.add(0, 1), Rows.jump(2, 60)));
        goalIs(due, longest, 0, 296, 1, 43);
    }

    private static void numberOfEnd(Due due) {
        made(due, "10");
        Counted longest = Samples.longest();
        due.is("byteAt(0, 299)", longest.byteAt(0, 299), 10);
    }

    private static void pushOfOne(Due due) {
        for (int number = -128; number <= 127; number++) {
            made(due, "16 " + (number < 0 ? number + 256 : number) + " 2 1 10", Rows.set(1, number));
        }
    }

    private static void threeHundred(Due due) {
        size(due, 299, Rows.repeated(42, Rows.add(0, 1), Rows.move(0, 1)));
        size(due, 300, Rows.longest());
        size(due, 300, Rows.repeated(59, Rows.jump(0, 60), Rows.move(0, 1)));
        size(due, 301, Rows.tooLong());
        size(due, 301, Rows.repeated(60, Rows.jump(0, 60)));
        size(due, 302, Rows.repeated(43, Rows.add(0, 1)));
        size(due, 421, Rows.repeated(60, Rows.set(0, 128)));
        size(due, 241, Rows.repeated(60, Rows.set(0, 127)));
        // One number decides it, with all else as it is.
        size(due, 300, withNumber(127));
        size(due, 300, withNumber(-128));
        size(due, 303, withNumber(128));
        size(due, 303, withNumber(-129));
    }

    private static int[][] withNumber(int number) {
        return Rows.repeated(40, Rows.add(0, 1), Rows.jump(2, 0), Rows.jump(2, 0), Rows.jump(2, 0), Rows.set(0, number));
    }

    private static void size(Due due, int bytes, int[]... rows) {
        Counted x = Samples.fresh();
        int block = Samples.block(x, rows);
        boolean fits = bytes <= 300;
        due.is("make of " + bytes + " bytes", x.make(block), fits ? bytes : MadeRunners.NONE);
        Samples.blockIs(due, "make of " + bytes + " bytes", x, block, fits ? 1 : 0, fits ? 0 : -1, rows.length, fits ? bytes : 0);
        due.is("border()", x.border(), fits ? 1 : 0);
        due.is("count(5)", x.count(5), 0);
        due.is("run", x.run(block, 0, 1), rows.length);
        due.is("ended(1)", x.ended(1), fits ? 1 : 0);
    }
}
