import java.util.function.Consumer;
import java.util.function.Supplier;

/** Compares answers with those that are due, and tells those that differ under the sentence that is tested. */
final class Due {
    private static final int TOLD_AT_MOST = 50;

    private String sentence = "";
    private int looked;
    private int wrong;

    /** What is looked at from now on stands for this sentence. */
    void under(String words) {
        sentence = "\"" + words + "\": ";
    }

    void is(String call, long got, long want) {
        reads(call, "" + got, "" + want);
    }

    void is(String call, boolean got, boolean want) {
        reads(call, "" + got, "" + want);
    }

    void reads(String call, String got, String want) {
        looked++;
        if (!got.equals(want)) {
            tell(call + " answered " + got + ", due is " + want);
        }
    }

    void outOfBounds(String call, Supplier<Counted> made, Consumer<Counted> asked) {
        refuses(call, IndexOutOfBoundsException.class, made, asked);
    }

    void wrongState(String call, Supplier<Counted> made, Consumer<Counted> asked) {
        refuses(call, IllegalStateException.class, made, asked);
    }

    void wrongArgument(String call, Supplier<Counted> made, Consumer<Counted> asked) {
        refuses(call, IllegalArgumentException.class, made, asked);
    }

    void unsupported(String call, Supplier<Counted> made, Consumer<Counted> asked) {
        refuses(call, UnsupportedOperationException.class, made, asked);
    }

    /** A refused call throws, and the object answers from then on as one that was never asked. */
    private void refuses(String call, Class<?> want, Supplier<Counted> made, Consumer<Counted> asked) {
        Counted x = made.get();
        reads(call, thrownBy(x, asked), want.getSimpleName());
        reads(call + ", what it leaves", Samples.stateOf(x), Samples.stateOf(made.get()));
    }

    /** The very class counts: the machine's own exceptions are classes below those of the document. */
    private static String thrownBy(Counted x, Consumer<Counted> asked) {
        try {
            asked.accept(x);
        } catch (RuntimeException e) {
            return e.getClass().getSimpleName() + (isThrownByTheClass(e) ? "" : " of the machine or the library");
        }
        return "without a throw";
    }

    private static boolean isThrownByTheClass(RuntimeException e) {
        StackTraceElement[] where = e.getStackTrace();
        return where.length > 0 && where[0].getClassName().startsWith("MadeRunners");
    }

    void tell(String text) {
        wrong++;
        if (wrong <= TOLD_AT_MOST) {
            System.out.println(sentence + text);
        }
    }

    int looked() {
        return looked;
    }

    void end() {
        System.out.println(looked + " answers looked at, " + wrong + " not as due");
        if (wrong != 0 || looked == 0) {
            System.exit(1);
        }
    }
}
