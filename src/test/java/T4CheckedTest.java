/** Terms: what is told when bytes are checked. */
final class T4CheckedTest {
    private static final String[] OF_TWO = {"ADD", "SUB", "MUL", "DIV", "LESS"};

    public static void main(String[] args) {
        Passage.paragraph("Terms", "CHECKED:")
                .sentence("CHECKED: first code by code from byte 0 on,", T4CheckedTest::codeByCode)
                .sentence("with a depth, 0 at first:", T4CheckedTest::depthAtFirst)
                .sentence("a byte that is no code,", T4CheckedTest::noCode)
                .sentence("lacks bytes behind it,", T4CheckedTest::lacksBytes)
                .sentence("has a register that is none,", T4CheckedTest::noRegister)
                .sentence("takes more from the depth than there is", T4CheckedTest::takesMore)
                .sentence("(LOAD, PUSH add 1;", T4CheckedTest::loadAndPushAdd)
                .sentence("STORE, BRANCH take 1;", T4CheckedTest::storeAndBranchTake)
                .sentence("ADD to LESS take 2 and add 1),", T4CheckedTest::addToLess)
                .sentence("makes it more than 4,", T4CheckedTest::moreThanFour)
                .sentence("END with a depth that is not 0,", T4CheckedTest::endWithDepth)
                .sentence("or bytes behind END,", T4CheckedTest::bytesBehindEnd)
                .sentence("or no END:", T4CheckedTest::noEnd)
                .sentence("told by 1 and the byte of that code", T4CheckedTest::oneAndTheByte)
                .sentence("(bytes behind END: the first of these;", T4CheckedTest::firstBehindEnd)
                .sentence("no END: the end).", T4CheckedTest::toldByTheEnd)
                .sentence("Then, branch by branch, in order:", T4CheckedTest::branchesInOrder)
                .sentence("one behind which the depth is not 0,", T4CheckedTest::depthBehindBranch)
                .sentence("or that leads to no code's first byte,", T4CheckedTest::leadsToNoCode)
                .sentence("or to one where the depth is not 0:", T4CheckedTest::leadsIntoDepth)
                .sentence("told by 1 and the byte of that BRANCH.", T4CheckedTest::oneAndTheBranch)
                .sentence("All is right: 0.", T4CheckedTest::allIsRight)
                .end();
    }

    /** What check() tells; a border and same() must find the same bytes right or not right. */
    private static void told(Due due, int want, String codes) {
        Counted x = Samples.fresh();
        int block = Samples.waiting(x, Codes.of(codes));
        due.is("check of " + codes, x.check(block), want);
        due.is("it waits still", x.what(block, 0), 1);
        due.is("border() with " + codes, x.border(), want == 0 ? 1 : 0);
        due.is("count(5) behind it", x.count(5), want == 0 ? 0 : 1);
        if (want != 0) {
            due.wrongState("same with " + codes, () -> waiting(codes), y -> y.same(0, 1, 1));
        }
    }

    private static Counted waiting(String codes) {
        Counted x = Samples.fresh();
        Samples.waiting(x, Codes.of(codes));
        return x;
    }

    private static void right(Due due, String codes) {
        told(due, 0, codes);
    }

    private static void codeByCode(Due due) {
        told(due, 1, "0, STORE 0, LOAD 4, 99, 99, END");
        told(due, 3, "LOAD 0, STORE 4, 99, 99, 99, END");
        // What stands behind a code as its byte is no code: 10 here is no END, 9 no BRANCH, 99 no code.
        right(due, "PUSH1 10, STORE 0, PUSH1 9, STORE 0, END");
        right(due, "PUSH1 99, STORE 0, END");
        right(due, "PUSH4 10 99 10 9, STORE 0, END");
        right(due, "LOAD 0, BRANCH 0 10, LOAD 0, BRANCH 0 10, END");
    }

    private static void depthAtFirst(Due due) {
        told(due, 1, "STORE 0, LOAD 0, END");
        told(due, 1, "BRANCH 0 0, LOAD 0, END");
        right(due, "END");
    }

    private static void noCode(Due due) {
        for (int v = 0; v < 256; v++) {
            if (v < 1 || v > 10 && v != 16) {
                told(due, 1, v + ", 0, STORE 0, END");
                told(due, 5, "LOAD 0, STORE 0, " + v);
            }
        }
    }

    private static void lacksBytes(Due due) {
        told(due, 5, "LOAD 0, STORE 0, LOAD");
        told(due, 5, "LOAD 0, STORE 0, PUSH1");
        told(due, 8, "LOAD 0, LOAD 0, ADD, LOAD 0, STORE");
        told(due, 8, "LOAD 0, LOAD 0, ADD, LOAD 0, BRANCH");
        told(due, 7, "LOAD 0, STORE 0, LOAD 0, BRANCH 0");
        told(due, 5, "LOAD 0, STORE 0, PUSH4");
        told(due, 8, "LOAD 0, LOAD 0, ADD, STORE 0, PUSH4 0");
        told(due, 8, "LOAD 0, LOAD 0, ADD, STORE 0, PUSH4 0 0");
        told(due, 5, "LOAD 0, STORE 0, PUSH4 0 0 0");
        // With the last byte that is lacking there, END is what lacks.
        told(due, 10, "LOAD 0, STORE 0, PUSH4 0 0 0 0");
        told(due, 10, "LOAD 0, STORE 0, LOAD 0, BRANCH 0 0");
        told(due, 9, "LOAD 0, STORE 0, LOAD 0, STORE 0");
        lacksBytesOfThreeHundred(due);
    }

    private static void lacksBytesOfThreeHundred(Due due) {
        for (int code : new int[] {1, 2, 3, 9, 16}) {
            Counted x = Samples.longest();
            x.alter(0, 299, code);
            due.is("check, code " + code + " at the last byte of 300", x.check(0), 300);
        }
        Counted x = Samples.longest();
        x.alter(0, 296, 3);
        due.is("check, PUSH lacks one byte at the end of 300", x.check(0), 297);
    }

    private static void noRegister(Due due) {
        for (int r = 0; r < 256; r++) {
            told(due, r < 4 ? 0 : 1, "LOAD " + r + ", STORE 0, END");
            told(due, r < 4 ? 0 : 3, "LOAD 0, STORE " + r + ", END");
            // A PUSH has no register.
            right(due, "PUSH1 " + r + ", STORE 0, END");
        }
    }

    private static void takesMore(Due due) {
        told(due, 1, "STORE 0, LOAD 0, END");
        told(due, 1, "BRANCH 0 0, LOAD 0, END");
        told(due, 5, "LOAD 0, STORE 0, STORE 0, LOAD 0, END");
        told(due, 6, "LOAD 0, BRANCH 0 0, BRANCH 0 0, END");
        for (String code : OF_TWO) {
            told(due, 1, code + ", LOAD 0, STORE 0, END, END, END");
            told(due, 3, "LOAD 0, " + code + ", STORE 0, END, END, END");
            told(due, 6, "LOAD 0, LOAD 0, " + code + ", " + code + ", STORE 0, END");
            right(due, "LOAD 0, PUSH1 9, " + code + ", STORE 1, LOAD 1, STORE 0, END");
        }
    }

    private static void loadAndPushAdd(Due due) {
        for (String code : new String[] {"LOAD 1", "PUSH1 1", "PUSH4 0 0 0 1"}) {
            right(due, code + ", STORE 0, END");
            told(due, 1 + Codes.of(code).length + 2, code + ", STORE 0, STORE 0, LOAD 0, END");
            right(due, code + ", " + code + ", STORE 0, STORE 0, END");
        }
    }

    private static void storeAndBranchTake(Due due) {
        right(due, "LOAD 0, LOAD 0, LOAD 0, STORE 1, STORE 2, STORE 3, END");
        told(due, 11, "LOAD 0, LOAD 0, LOAD 0, STORE 1, STORE 2, END, 0");
        right(due, "LOAD 0, BRANCH 0 5, LOAD 0, BRANCH 0 5, END");
        told(due, 8, "LOAD 0, LOAD 0, BRANCH 0 0, END");
        told(due, 11, "LOAD 0, LOAD 0, BRANCH 0 0, BRANCH 0 0, BRANCH 0 0, END");
    }

    private static void addToLess(Due due) {
        for (String code : OF_TWO) {
            right(due, "LOAD 0, LOAD 1, " + code + ", STORE 0, END");
            told(due, 8, "LOAD 0, LOAD 1, " + code + ", STORE 0, STORE 0, END");
            told(due, 6, "LOAD 0, LOAD 1, " + code + ", END, 0, 0");
            right(due, "LOAD 0, LOAD 0, LOAD 0, LOAD 0, " + code + ", " + code + ", " + code + ", STORE 0, END");
        }
    }

    private static void moreThanFour(Due due) {
        String four = "LOAD 0, LOAD 1, LOAD 2, LOAD 3, ";
        String stores = "STORE 0, STORE 0, STORE 0, STORE 0, ";
        right(due, four + stores + "END");
        right(due, "PUSH1 1, PUSH1 2, PUSH4 0 0 0 0, PUSH1 3, " + stores + "END");
        told(due, 9, four + "LOAD 0, STORE 0, " + stores + "END");
        told(due, 9, four + "PUSH1 0, STORE 0, " + stores + "END");
        told(due, 9, four + "PUSH4 0 0 0 0, STORE 0, " + stores + "END");
        // Four again and again is not more than four.
        right(due, four + "ADD, LOAD 0, MUL, PUSH1 1, LESS, PUSH4 0 0 0 1, STORE 3, STORE 0, STORE 0, STORE 0, END");
        right(due, four + stores + four + stores + "END");
    }

    private static void endWithDepth(Due due) {
        told(due, 5, "LOAD 0, LOAD 0, END");
        told(due, 8, "LOAD 0, LOAD 0, ADD, LOAD 0, END");
        told(due, 9, "LOAD 0, LOAD 0, STORE 0, LOAD 0, END");
        told(due, 9, "LOAD 0, LOAD 0, LOAD 0, LOAD 0, END");
        told(due, 10, "LOAD 0, LOAD 0, LOAD 0, LOAD 0, ADD, END");
        told(due, 9, "LOAD 0, PUSH4 0 0 0 0, ADD, END");
        // One deep, and its bytes behind END are not what is told.
        told(due, 3, "LOAD 0, END, STORE 0");
        told(due, 3, "LOAD 0, END, END, END");
    }

    private static void bytesBehindEnd(Due due) {
        told(due, 2, "END, LOAD 0, STORE 0");
        told(due, 2, "END, END, END, END, END");
        told(due, 6, "LOAD 0, STORE 0, END, 0");
        told(due, 9, "LOAD 0, LOAD 0, ADD, STORE 0, END, END");
        Counted x = Samples.longest();
        x.alter(0, 294, 10);
        due.is("check, END at byte 294 of 300", x.check(0), 296);
    }

    private static void noEnd(Due due) {
        told(due, 6, "LOAD 0, BRANCH 0 0");
        told(due, 10, "LOAD 0, LOAD 0, LOAD 0, LOAD 0, ADD");
        told(due, 9, "LOAD 0, LOAD 0, STORE 0, STORE 0");
        // A 10 that is no code is no END.
        told(due, 10, "LOAD 0, STORE 0, PUSH4 0 0 0 10");
        told(due, 6, "LOAD 0, BRANCH 0 10");
    }

    private static void oneAndTheByte(Due due) {
        for (int i = 0; i < 12; i++) {
            String before = "LOAD 0, STORE 0, ".repeat(i);
            told(due, 1 + 4 * i, before + "99, 0, 0, 0, 0");
            told(due, 1 + 4 * i, before + "LOAD 4, STORE 0, END");
            told(due, 1 + 4 * i, before + "STORE 0, LOAD 0, END");
            told(due, 3 + 4 * i, before + "LOAD 0, END, 0, 0");
        }
        Counted x = Samples.longest();
        x.alter(0, 299, 0);
        due.is("check, no code at the last byte of 300", x.check(0), 300);
    }

    private static void firstBehindEnd(Due due) {
        told(due, 6, "LOAD 0, STORE 0, END, LOAD 0, STORE 0");
        told(due, 6, "LOAD 0, STORE 0, END, END, END, END");
        told(due, 6, "LOAD 0, STORE 0, END, 99, 99, 99");
        Counted x = Samples.longest();
        x.alter(0, 0, 10);
        due.is("check, END at byte 0 of 300", x.check(0), 2);
    }

    private static void toldByTheEnd(Due due) {
        told(due, 6, "LOAD 0, BRANCH 0 0");
        told(due, 9, "LOAD 0, STORE 0, LOAD 0, STORE 0");
        // Whatever the depth is there.
        told(due, 9, "LOAD 0, LOAD 0, LOAD 0, LOAD 0");
        Counted x = Samples.longest();
        x.alter(0, 295, 0);
        x.alter(0, 296, 16);
        x.alter(0, 298, 2);
        x.alter(0, 299, 0);
        // LOAD, PUSH and STORE up to the last byte: one deep, and no END.
        due.is("check, no END in 300 bytes", x.check(0), 301);
    }

    private static void branchesInOrder(Due due) {
        told(due, 3, "LOAD 0, BRANCH 0 1, LOAD 0, BRANCH 0 1, END");
        told(due, 8, "LOAD 0, BRANCH 0 0, LOAD 0, BRANCH 0 1, END");
        told(due, 3, "LOAD 0, BRANCH 0 1, LOAD 0, BRANCH 0 0, END");
        // The first one by its goal, the second one by its depth, and the other way round.
        told(due, 3, "LOAD 0, BRANCH 0 1, LOAD 0, LOAD 0, BRANCH 0 0, STORE 0, END");
        told(due, 5, "LOAD 0, LOAD 0, BRANCH 0 0, STORE 0, LOAD 0, BRANCH 0 1, END");
        // Codes come first: a wrong one behind a wrong branch is what is told.
        told(due, 11, "LOAD 0, BRANCH 0 1, LOAD 0, BRANCH 0 0, 99");
        told(due, 6, "LOAD 0, BRANCH 0 1, 99, 0, 0, 0, 0");
        told(due, 6, "LOAD 0, BRANCH 0 1, LOAD 9, STORE 0, END");
        told(due, 7, "LOAD 0, BRANCH 0 1, END, END, END, END");
        told(due, 10, "LOAD 0, LOAD 0, BRANCH 0 0, LOAD 0");
    }

    private static void depthBehindBranch(Due due) {
        told(due, 5, "LOAD 0, LOAD 1, BRANCH 0 0, STORE 0, END");
        told(due, 7, "LOAD 0, LOAD 1, LOAD 2, BRANCH 0 0, STORE 0, STORE 0, END");
        told(due, 9, "LOAD 0, LOAD 1, LOAD 2, LOAD 3, BRANCH 0 0, STORE 0, STORE 0, STORE 0, END");
        // Where it leads to, the depth is as deep: that helps nothing.
        told(due, 5, "LOAD 0, LOAD 1, BRANCH 0 7, STORE 0, END");
        right(due, "LOAD 0, LOAD 1, ADD, BRANCH 0 0, END");
    }

    private static void leadsToNoCode(Due due) {
        // 0 LOAD, 2 BRANCH, 5 PUSH, 10 STORE, 12 END at the last byte, which is 12 of 13.
        for (int goal = 0; goal < 20; goal++) {
            boolean right = goal == 0 || goal == 5 || goal == 12;
            told(due, right ? 0 : 3, "LOAD 0, BRANCH 0 " + goal + ", PUSH4 0 0 0 0, STORE 0, END");
        }
        for (String goal : new String[] {"1 0", "1 5", "1 43", "1 44", "1 45", "2 0", "127 255", "128 0", "255 0", "255 255"}) {
            told(due, 3, "LOAD 0, BRANCH " + goal + ", END");
        }
        right(due, "LOAD 0, BRANCH 0 5, END");
        told(due, 3, "LOAD 0, BRANCH 0 6, END");
        Counted x = Samples.longest();
        x.alter(0, 298, 43);
        due.is("check, BRANCH to END at byte 299", x.check(0), 0);
        x.alter(0, 298, 44);
        due.is("check, BRANCH to byte 300 of 300", x.check(0), 297);
        x.alter(0, 298, 42);
        due.is("check, BRANCH to its own second byte", x.check(0), 297);
    }

    private static void leadsIntoDepth(Due due) {
        // One, two, three and four deep, and 0 again behind the first STORE of each.
        told(due, 3, "LOAD 0, BRANCH 0 7, LOAD 0, STORE 0, END");
        told(due, 3, "LOAD 0, BRANCH 0 9, LOAD 0, LOAD 0, STORE 0, STORE 0, END");
        told(due, 3, "LOAD 0, BRANCH 0 11, LOAD 0, LOAD 0, LOAD 0, STORE 0, STORE 0, STORE 0, END");
        told(due, 3, "LOAD 0, BRANCH 0 13, LOAD 0, LOAD 0, LOAD 0, LOAD 0, STORE 0, STORE 0, STORE 0, STORE 0, END");
        right(due, "LOAD 0, BRANCH 0 9, LOAD 0, STORE 0, END");
        // To itself: the depth before a BRANCH is one at least.
        told(due, 3, "LOAD 0, BRANCH 0 2, END");
        // Back, to a STORE.
        told(due, 7, "LOAD 0, STORE 0, LOAD 0, BRANCH 0 2, END");
        right(due, "LOAD 0, STORE 0, LOAD 0, BRANCH 0 4, END");
    }

    private static void oneAndTheBranch(Due due) {
        for (int i = 0; i < 12; i++) {
            String before = "LOAD 0, STORE 0, ".repeat(i);
            told(due, 3 + 4 * i, before + "LOAD 0, BRANCH 0 1, END");
            told(due, 5 + 4 * i, before + "LOAD 0, LOAD 0, BRANCH 0 0, STORE 0, END");
        }
        Counted x = Samples.longest();
        x.alter(0, 297, 255);
        due.is("check, BRANCH at byte 296 of 300", x.check(0), 297);
    }

    private static void allIsRight(Due due) {
        right(due, "END");
        for (int op = Rows.SET; op <= Rows.MOVE; op++) {
            Counted x = Samples.withMade(Rows.row(op, 3, 2));
            due.is("check of what was made of op " + op, x.check(0), 0);
        }
        for (int goal = 0; goal <= 60; goal++) {
            Counted x = Samples.withMade(Rows.set(0, 300), Rows.jump(0, goal), Rows.add(0, 1), Rows.set(0, 3));
            due.is("check of a JUMP to " + goal, x.check(0), 0);
        }
        Counted x = Samples.longest();
        due.is("check of 300 bytes", x.check(0), 0);
        Counted y = Samples.withMade(Rows.repeated(59, Rows.jump(0, 60), Rows.move(0, 1)));
        due.is("check of 300 bytes with 59 branches", y.check(0), 0);
    }
}
