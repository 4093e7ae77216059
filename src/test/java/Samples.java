import java.util.Arrays;
import java.util.Map;
import java.util.function.Consumer;
import java.util.function.Supplier;

/** Objects and blocks that several tests use. */
final class Samples {
    /** The blocks of a busy object. */
    static final int IS_ROWS = 0;
    static final int WAITS = 1;
    static final int IS_HANDED = 2;
    static final int BUSY_BLOCKS = 3;

    private Samples() {
    }

    static Counted fresh() {
        return new Counted(1);
    }

    /**
     * G is 2, the generation is 1; a block that is rows since a border told its bytes, one that waits, with an
     * altered byte that is right, and one that is handed; the latest run was by bytes and ended with a fault.
     */
    static Counted busy() {
        Counted x = new Counted(2);
        for (int i = 0; i < BUSY_BLOCKS; i++) {
            block(x, Rows.countdown(0, Rows.div(2, 1)));
        }
        x.make(IS_ROWS);
        x.alter(IS_ROWS, 0, 0);
        x.next();
        x.make(IS_HANDED);
        x.border();
        x.make(WAITS);
        x.alter(WAITS, 3, 2);
        x.run(IS_HANDED, 3, 0);
        return x;
    }

    /** An object with one block of these rows, which waits, or is rows when it can not be made. */
    static Counted withMade(int[]... rows) {
        Counted x = fresh();
        x.make(block(x, rows));
        return x;
    }

    static Counted withHanded(int[]... rows) {
        Counted x = withMade(rows);
        x.border();
        return x;
    }

    static Counted tooLong() {
        return withMade(Rows.tooLong());
    }

    static Counted longest() {
        return withMade(Rows.longest());
    }

    /** Twenty-four blocks; the first one and a few others wait. */
    static Counted full() {
        Counted x = fresh();
        blocks(x, 24);
        for (int i = 0; i < 24; i += 5) {
            x.make(i);
        }
        return x;
    }

    /** Objects whose block 0 is rows, by each way in which it may have come to be that. */
    static Map<String, Supplier<Counted>> rowsInAnyWay() {
        return Map.of(
                "a new one", () -> with(fresh(), x -> x.block()),
                "one with instructions", () -> with(fresh(), x -> countdown(x)),
                "one that a border told", Samples::busy,
                "one of 301 bytes", Samples::tooLong,
                "a dropped one that waited", () -> with(withMade(Rows.set(0, 1)), x -> x.next()),
                "a dropped one that was handed", () -> with(withHanded(Rows.set(0, 1)), x -> x.next()),
                "one that was told more while it waited",
                () -> with(withMade(Rows.set(0, 1)), x -> x.instruction(0, Rows.SET, 0, 1)),
                "one that was told more when it was handed",
                () -> with(withHanded(Rows.set(0, 1)), x -> x.instruction(0, Rows.SET, 0, 1)));
    }

    private static Counted with(Counted x, Consumer<Counted> asked) {
        asked.accept(x);
        return x;
    }

    static int block(Counted x, int[]... rows) {
        int number = x.block();
        for (int[] row : rows) {
            x.instruction(number, row[0], row[1], row[2]);
        }
        return number;
    }

    static int countdown(Counted x) {
        return block(x, Rows.countdown(0));
    }

    static void blocks(Counted x, int howMany) {
        for (int i = 0; i < howMany; i++) {
            x.block();
        }
    }

    /** A waiting block whose bytes are these and no others; what its rows do is of no use. */
    static int waiting(Counted x, int... bytes) {
        int number = block(x, rowsOf(bytes.length));
        if (x.make(number) != bytes.length) {
            throw new AssertionError("no rows have " + bytes.length + " bytes");
        }
        for (int i = 0; i < bytes.length; i++) {
            x.alter(number, i, bytes[i]);
        }
        return number;
    }

    /** Rows whose made bytes are so many, if there are any. */
    private static int[][] rowsOf(int bytes) {
        int[][] rows = new int[60][];
        int size = 0;
        int left = bytes - 1;
        while (left == 7 || left == 11 || left > 60) {
            rows[size++] = Rows.add(0, 0);
            left -= 7;
        }
        while (left % 4 != 0 && left >= 5) {
            rows[size++] = Rows.jump(0, 0);
            left -= 5;
        }
        for (; left >= 4; left -= 4) {
            rows[size++] = Rows.move(0, 0);
        }
        return Arrays.copyOf(rows, size);
    }

    static void bytesAre(Due due, Counted x, int block, int... want) {
        int[] got = new int[x.what(block, 3)];
        for (int i = 0; i < got.length; i++) {
            got[i] = x.byteAt(block, i);
        }
        due.reads("the bytes of block " + block, Arrays.toString(got), Arrays.toString(want));
    }

    static void registersAre(Due due, String when, Counted x, long... want) {
        due.reads(when + ", the registers", registersOf(x), Arrays.toString(want));
    }

    static void countsAre(Due due, String when, Counted x, int... want) {
        int[] got = new int[want.length];
        for (int what = 0; what < got.length; what++) {
            got[what] = x.count(what);
        }
        due.reads(when + ", count(0), count(1), ..", Arrays.toString(got), Arrays.toString(want));
    }

    static void blockIs(Due due, String when, Counted x, int block, int... want) {
        due.reads(when + ", what(" + block + ", 0), what(" + block + ", 1), ..", whatsOf(x, block), Arrays.toString(want));
    }

    private static String whatsOf(Counted x, int block) {
        int[] got = {x.what(block, 0), x.what(block, 1), x.what(block, 2), x.what(block, 3)};
        return Arrays.toString(got);
    }

    private static String registersOf(Counted x) {
        long[] got = {x.register(0), x.register(1), x.register(2), x.register(3)};
        return Arrays.toString(got);
    }

    /** All that can be asked of an object. The runs stand behind the rest, for they change what it answers. */
    static String stateOf(Counted x) {
        StringBuilder text = new StringBuilder();
        for (int what = 0; what <= 8; what++) {
            text.append(x.count(what)).append(' ');
        }
        text.append(registersOf(x)).append(x.ended(0)).append(x.ended(1));
        int blocks = x.count(0);
        for (int block = 0; block < blocks; block++) {
            text.append(" block ").append(whatsOf(x, block));
            int bytes = x.what(block, 3);
            for (int i = 0; i < bytes; i++) {
                text.append(' ').append(x.byteAt(block, i));
            }
        }
        for (int block = 0; block < blocks; block++) {
            text.append(" run ").append(x.run(block, 7, 3)).append(registersOf(x)).append(x.ended(0)).append(x.ended(1));
        }
        return text.toString();
    }
}
