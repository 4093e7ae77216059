/**
 * An object of MadeRunners that counts its calls. What an object answers beyond its 512th call is free, so a
 * test that asks for more than that is wrong itself.
 */
final class Counted {
    static final int MOST_CALLS = 512;

    private final MadeRunners made;
    private int calls;

    Counted(int generations) {
        made = new MadeRunners(generations);
    }

    int callsLeft() {
        return MOST_CALLS - calls;
    }

    int block() {
        return counting().block();
    }

    int instruction(int block, int op, int a, int b) {
        return counting().instruction(block, op, a, b);
    }

    int make(int block) {
        return counting().make(block);
    }

    int byteAt(int block, int i) {
        return counting().byteAt(block, i);
    }

    int alter(int block, int i, int v) {
        return counting().alter(block, i, v);
    }

    int check(int block) {
        return counting().check(block);
    }

    int border() {
        return counting().border();
    }

    int what(int block, int what) {
        return counting().what(block, what);
    }

    int next() {
        return counting().next();
    }

    int run(int block, long x, long y) {
        return counting().run(block, x, y);
    }

    long register(int r) {
        return counting().register(r);
    }

    int ended(int what) {
        return counting().ended(what);
    }

    boolean same(int block, long x, long y) {
        return counting().same(block, x, y);
    }

    int count(int what) {
        return counting().count(what);
    }

    private MadeRunners counting() {
        calls++;
        if (calls > MOST_CALLS) {
            throw new AssertionError("a test makes more than 512 calls on one object");
        }
        return made;
    }
}
