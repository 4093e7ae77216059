/** Promise 1: a new object. */
final class P01NewObjectTest {
    public static void main(String[] args) {
        Due due = new Due();
        limits(due);
        empty(due);
        due.end();
    }

    private static void limits(Due due) {
        int[] told = {1, 2, 7, 8, 9, 16, 17, 0, -1, -6, -7, -8, Integer.MAX_VALUE, Integer.MIN_VALUE, Integer.MIN_VALUE + 1};
        int[] want = {1, 2, 7, 8, 1, 8, 1, 8, 7, 2, 1, 8, 7, 8, 1};
        for (int i = 0; i < told.length; i++) {
            due.is("G of " + told[i], new MadeRunners(told[i]).count(8), want[i]);
        }
    }

    private static void empty(Due due) {
        MadeRunners x = new MadeRunners(3);
        int[] want = {0, 0, 0, 0, 0, 0, 0, 0, 3};
        for (int what = 0; what < want.length; what++) {
            due.is("new count(" + what + ")", x.count(what), want[what]);
        }
        due.noBlock("new what(0, 0)", () -> x.what(0, 0));
        due.is("new border()", x.border(), 0);
        due.is("new next()", x.next(), 0);
    }
}
