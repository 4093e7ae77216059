/** Promise 8: border. */
final class P08BorderTest {
    public static void main(String[] args) {
        Due due = new Due();
        MadeRunners x = new MadeRunners(2);
        due.is("border of none", x.border(), 0);
        for (int i = 0; i < 5; i++) {
            Samples.countdown(x);
        }
        due.is("border of rows", x.border(), 0);
        for (int i = 0; i < 4; i++) {
            x.make(i);
        }
        x.alter(1, 0, 99);
        due.is("run before the border is by rows", x.run(0, 3, 0) * 10 + x.ended(1), 70);
        due.is("border: three are right", x.border(), 3);
        int[] states = {2, 0, 2, 2, 0};
        for (int i = 0; i < states.length; i++) {
            due.is("what(" + i + ", 0)", x.what(i, 0), states[i]);
        }
        due.is("rows again: no generation", x.what(1, 1), MadeRunners.NONE);
        due.is("rows again: no bytes", x.what(1, 3), 0);
        due.is("told at borders", x.count(5), 1);
        due.is("run behind the border is by bytes", x.run(0, 3, 0) * 10 + x.ended(1), 71);
        due.is("border with none that waits", x.border(), 0);
        due.is("handed ones stay", x.count(3), 3);
        x.next();
        x.make(0);
        due.is("made anew, it waits", x.what(0, 0), 1);
        due.is("and is run by rows", x.run(0, 3, 0) * 10 + x.ended(1), 70);
        due.is("border", x.border(), 1);
        due.is("its generation stays", x.what(0, 1), 1);
        x.make(1);
        x.make(4);
        x.alter(1, 0, 99);
        x.alter(4, 0, 99);
        due.is("border of wrong ones", x.border(), 0);
        due.is("told at borders so far", x.count(5), 3);
        due.end();
    }
}
