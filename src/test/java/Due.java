/** Compares answers with those that are due, and ends a test with exit code 1 if one differs. */
final class Due {
    private static final int TOLD_AT_MOST = 50;

    private int looked;
    private int wrong;

    void is(String call, long got, long want) {
        looked++;
        if (got != want) {
            tell(call + " answered " + got + ", due is " + want);
        }
    }

    void holds(String call, boolean got) {
        is(call, got ? 1 : 0, 1);
    }

    void fails(String call, boolean got) {
        is(call, got ? 1 : 0, 0);
    }

    /** The very class counts: the machine's own exceptions are classes below those of the document. */
    void refuses(String call, Class<? extends RuntimeException> want, Runnable made) {
        looked++;
        try {
            made.run();
        } catch (RuntimeException e) {
            if (e.getClass() != want) {
                tell(call + " throws " + e.getClass().getSimpleName() + ", due is " + want.getSimpleName());
            }
            return;
        }
        tell(call + " throws nothing, due is " + want.getSimpleName());
    }

    void noBlock(String call, Runnable made) {
        refuses(call, IndexOutOfBoundsException.class, made);
    }

    void wrongState(String call, Runnable made) {
        refuses(call, IllegalStateException.class, made);
    }

    void wrongArgument(String call, Runnable made) {
        refuses(call, IllegalArgumentException.class, made);
    }

    void tell(String text) {
        wrong++;
        if (wrong <= TOLD_AT_MOST) {
            System.out.println(text);
        }
    }

    void end() {
        System.out.println(looked + " answers looked at, " + wrong + " not as due");
        if (wrong != 0 || looked == 0) {
            System.exit(1);
        }
    }
}
