/** Promise 7: check. */
final class P07CheckTest {
    public static void main(String[] args) {
        Due due = new Due();
        states(due);
        noCodes(due);
        lacking(due);
        registers(due);
        depths(due);
        ends(due);
        branches(due);
        order(due);
        due.end();
    }

    private static void told(Due due, String name, int want, int... bytes) {
        MadeRunners x = new MadeRunners(1);
        int block = Samples.waiting(x, bytes);
        due.is("check: " + name, x.check(block), want);
        due.is("it waits still: " + name, x.what(block, 0), 1);
        due.is("border: " + name, x.border(), want == 0 ? 1 : 0);
    }

    private static void states(Due due) {
        MadeRunners x = new MadeRunners(1);
        int block = Samples.countdown(x);
        due.wrongState("check of rows", () -> x.check(block));
        x.make(block);
        due.is("check of a waiting one", x.check(block), 0);
        x.border();
        due.is("check of a handed one", x.check(block), 0);
        due.noBlock("check(1)", () -> x.check(1));
        due.noBlock("check(-1)", () -> x.check(-1));
        int longest = Samples.longest(x);
        x.make(longest);
        due.is("check of 300 bytes", x.check(longest), 0);
        x.alter(longest, 299, 1);
        due.is("check of 300 bytes, the last one no END", x.check(longest), 300);
        int none = x.block();
        x.make(none);
        due.is("check of END alone", x.check(none), 0);
    }

    private static void noCodes(Due due) {
        for (int v = 0; v < 256; v++) {
            boolean isCode = v >= 1 && v <= 10 || v == 16;
            if (!isCode) {
                told(due, "no code " + v, 1, v, 0, 2, 0, 10);
                told(due, "no code " + v, 5, 1, 0, 2, 0, v);
            }
        }
    }

    private static void lacking(Due due) {
        told(due, "LOAD at the end", 5, 1, 0, 2, 0, 1);
        told(due, "PUSH at the end", 5, 1, 0, 2, 0, 16);
        told(due, "PUSH with three bytes of four", 5, 1, 0, 2, 0, 3, 0, 0, 10);
        told(due, "STORE at the end", 8, 16, 0, 1, 0, 4, 16, 0, 2);
        told(due, "BRANCH with one byte of two", 7, 1, 0, 2, 0, 1, 0, 9, 0);
        told(due, "BRANCH at the end", 8, 16, 0, 1, 0, 4, 16, 0, 9);
    }

    private static void registers(Due due) {
        for (int r = 0; r < 256; r++) {
            told(due, "LOAD " + r, r < 4 ? 0 : 1, 1, r, 2, 0, 10);
            told(due, "STORE " + r, r < 4 ? 0 : 3, 1, 0, 2, r, 10);
            told(due, "PUSH " + r, 0, 16, r, 2, 0, 10);
        }
    }

    private static void depths(Due due) {
        told(due, "STORE of nothing", 1, 2, 0, 1, 0, 10);
        told(due, "BRANCH of nothing", 1, 9, 0, 0, 1, 0, 10);
        for (int code = 4; code <= 8; code++) {
            told(due, "of nothing: " + code, 1, code, 1, 0, 1, 0, 2, 0, 2, 0, 1, 0, 10, 10);
            told(due, "of one: " + code, 3, 1, 0, code, 1, 0, 10, 10, 10, 10);
            told(due, "of two: " + code, 0, 1, 0, 16, 9, code, 2, 1, 1, 1, 2, 0, 10);
        }
        told(due, "four deep", 0, 1, 0, 1, 1, 16, 7, 1, 3, 2, 0, 2, 1, 2, 2, 2, 3, 10);
        told(due, "five deep, LOAD", 9, 1, 0, 1, 1, 1, 2, 1, 3, 1, 0, 2, 0, 2, 0, 2, 0, 2, 0, 2, 0, 10);
        told(due, "five deep, PUSH", 9, 1, 0, 1, 1, 1, 2, 1, 3, 16, 0, 2, 0, 2, 0, 2, 0, 2, 0, 2, 0, 10, 10, 10, 10, 10);
        told(due, "five deep, PUSH of four", 9, 1, 0, 1, 1, 1, 2, 1, 3, 3, 0, 0, 0, 0, 2, 0, 2, 0, 2, 0, 2, 0, 2, 0, 10);
        told(due, "four deep again and again", 0,
                1, 0, 1, 1, 1, 2, 1, 3, 4, 1, 3, 4, 1, 3, 4, 2, 0, 2, 1, 2, 2, 1, 2, 2, 0, 10);
    }

    private static void ends(Due due) {
        told(due, "END one deep, with bytes behind it", 3, 1, 0, 10, 0, 10);
        told(due, "END two deep, at the last byte", 5, 16, 0, 1, 0, 10);
        told(due, "bytes behind END at 0", 2, 10, 0, 2, 0, 10);
        told(due, "bytes behind END at 4", 6, 1, 0, 2, 0, 10, 10, 10, 10, 10);
        told(due, "one byte behind END", 9, 16, 0, 16, 0, 4, 2, 0, 10, 10);
        told(due, "no END, a BRANCH stands there", 6, 1, 0, 9, 0, 0);
        told(due, "no END, a PUSH has it", 10, 1, 0, 2, 0, 3, 0, 0, 0, 10);
        told(due, "no END, an ADD stands there", 10, 1, 0, 1, 0, 1, 0, 1, 0, 4);
    }

    private static void branches(Due due) {
        told(due, "BRANCH to 0", 0, 1, 0, 9, 0, 0, 10);
        told(due, "BRANCH to END", 0, 1, 0, 9, 0, 5, 10);
        told(due, "BRANCH to the end behind END", 3, 1, 0, 9, 0, 6, 10);
        told(due, "BRANCH far beyond", 3, 1, 0, 9, 255, 255, 10);
        told(due, "BRANCH to 256", 3, 1, 0, 9, 1, 0, 10);
        told(due, "BRANCH to 300", 3, 1, 0, 9, 1, 44, 10);
        told(due, "BRANCH into a code", 3, 1, 0, 9, 0, 1, 10);
        told(due, "BRANCH to itself, one deep", 3, 1, 0, 9, 0, 2, 10);
        told(due, "BRANCH with depth behind it", 5, 1, 0, 1, 1, 9, 0, 0, 2, 0, 1, 0, 2, 0, 10);
        told(due, "BRANCH forward, into depth", 3, 1, 0, 9, 0, 7, 1, 1, 2, 0, 10);
        told(due, "BRANCH forward", 0, 1, 0, 9, 0, 9, 1, 1, 2, 0, 10);
        MadeRunners x = new MadeRunners(1);
        int longest = Samples.longest(x);
        x.make(longest);
        x.alter(longest, 298, 43);
        due.is("BRANCH to END at 299", x.check(longest), 0);
        x.alter(longest, 298, 44);
        due.is("BRANCH to 300 of 300", x.check(longest), 297);
    }

    private static void order(Due due) {
        told(due, "the first of two codes", 3, 1, 0, 2, 4, 99);
        told(due, "codes before branches", 11, 1, 0, 9, 0, 1, 1, 0, 9, 0, 0, 99);
        told(due, "the first of two branches", 3, 1, 0, 9, 0, 1, 1, 0, 9, 0, 1, 10);
        told(due, "the second of two branches", 8, 1, 0, 9, 0, 0, 1, 0, 9, 0, 1, 10);
        told(due, "depth at END before bytes behind it", 3, 1, 0, 10, 10, 10);
    }
}
