/** Promise 15: count. */
final class P15CountTest {
    public static void main(String[] args) {
        Due due = new Due();
        MadeRunners x = new MadeRunners(2);
        answers(due, "new", x, 0, 0, 0, 0, 0, 0, 0, 0, 2);
        for (int i = 0; i < 4; i++) {
            Samples.countdown(x);
        }
        answers(due, "blocks", x, 4, 0, 0, 0, 0, 0, 0, 0, 2);
        x.make(0);
        x.make(1);
        x.make(2);
        answers(due, "made", x, 4, 0, 0, 0, 3, 0, 0, 0, 2);
        x.alter(1, 0, 0);
        answers(due, "altered", x, 4, 0, 0, 0, 3, 0, 0, 0, 2);
        x.border();
        answers(due, "a border", x, 4, 0, 0, 2, 0, 1, 0, 0, 2);
        x.run(0, 5, 0);
        x.run(3, 0, 0);
        answers(due, "runs", x, 4, 0, 0, 2, 0, 1, 2, 2011, 2);
        x.same(0, 5, 0);
        x.make(0);
        x.next();
        answers(due, "a generation", x, 4, 1, 0, 1, 1, 1, 2, 2011, 2);
        x.next();
        answers(due, "another", x, 4, 2, 1, 0, 0, 1, 2, 2011, 2);
        for (int what : new int[] {-1, 9, Integer.MAX_VALUE, Integer.MIN_VALUE}) {
            due.is("count(" + what + ")", x.count(what), MadeRunners.NONE);
        }
        due.end();
    }

    private static void answers(Due due, String when, MadeRunners x, int... want) {
        for (int what = 0; what < want.length; what++) {
            due.is(when + ": count(" + what + ")", x.count(what), want[what]);
        }
    }
}
