/** Promise 2: block. */
final class P02BlockTest {
    public static void main(String[] args) {
        Due due = new Due();
        MadeRunners x = new MadeRunners(1);
        for (int i = 0; i < 24; i++) {
            due.is("block()", x.block(), i);
            due.is("count(0)", x.count(0), i + 1);
            due.is("what(" + i + ", 0)", x.what(i, 0), 0);
            due.is("what(" + i + ", 1)", x.what(i, 1), MadeRunners.NONE);
            due.is("what(" + i + ", 2)", x.what(i, 2), 0);
            due.is("what(" + i + ", 3)", x.what(i, 3), 0);
        }
        due.refuses("the 25th block()", UnsupportedOperationException.class, x::block);
        due.is("count(0) behind it", x.count(0), 24);
        due.is("the 24th takes instructions", x.instruction(23, Samples.SET, 0, 1), 1);
        due.is("the others have none of it", x.what(22, 2), 0);
        due.end();
    }
}
