import java.util.Arrays;
import java.util.List;
import java.util.Map;
import java.util.Random;
import java.util.TreeMap;

/** Long runs of calls, drawn with fixed seeds, answered by MadeRunners and by Model. */
final class ModelTest {
    private static final int OBJECTS = 1500;
    private static final int[] NUMBERS = {
        0, 1, -1, 2, 3, 127, 128, -128, -129, 255, 256, 300, -300, Integer.MAX_VALUE, Integer.MIN_VALUE,
    };

    private final Due due = new Due();
    private final Map<String, Integer> seen = new TreeMap<>();

    public static void main(String[] args) {
        ModelTest test = new ModelTest();
        for (int seed = 0; seed < OBJECTS; seed++) {
            test.one(seed);
        }
        test.reached();
        test.due.end();
    }

    /** What the drawn calls must have come across, or the comparison says little. */
    private void reached() {
        String[] wanted = {
            "block throws.UnsupportedOperationException", "instruction throws.UnsupportedOperationException",
            "instruction throws.IllegalArgumentException", "instruction throws.IndexOutOfBoundsException",
            "make none", "check right", "check wrong", "border none", "border some", "next none", "next some",
            "same true", "same false", "same throws.IllegalStateException",
            "end 0 by 0", "end 1 by 0", "end 2 by 0", "end 0 by 1", "end 1 by 1", "end 2 by 1",
        };
        for (String each : wanted) {
            due.is("come across 20 times: " + each, seen.getOrDefault(each, 0) >= 20, true);
        }
    }

    private void one(int seed) {
        Random random = new Random(seed);
        int generations = seed < 40 ? seed - 20 : random.nextInt();
        Counted x = new Counted(generations);
        Model model = new Model(generations);
        // Some objects stay with few blocks, so that these get long; others take all that there can be.
        int few = 1 + random.nextInt(30);
        for (int i = 0; x.callsLeft() > 0; i++) {
            String call = call(random, i, model.blockCount(), few);
            long[] given = given(random, call, model.blockCount(), model);
            String want = model.answer(call, given);
            String got = answer(x, call, given);
            due.reads("seed " + seed + ", call " + i + ", " + call + Arrays.toString(given), got, want);
            note(model, call, got);
        }
    }

    /** At first blocks get instructions; later on their bytes are altered, checked and run. */
    private static String call(Random random, int made, int blocks, int few) {
        if (blocks == 0 || blocks < few && random.nextInt(8) == 0) {
            return "block";
        }
        String[] rare = {"border", "next", "count", "register", "ended", "what", "byteAt", "block"};
        String[] often = {"make", "make", "alter", "alter", "alter", "alter", "check", "run", "same"};
        int draw = random.nextInt(100);
        if (draw < (made < 150 ? 70 : 5)) {
            return "instruction";
        }
        return draw % 4 == 0 ? rare[random.nextInt(rare.length)] : often[random.nextInt(often.length)];
    }

    /** Mostly a block that there is, and one that is made rather than rows. */
    private static int drawBlock(Random random, int blocks, Model model) {
        if (random.nextInt(25) == 0) {
            return random.nextInt(30) - 3;
        }
        int block = 0;
        for (int i = 0; i < 4; i++) {
            block = random.nextInt(Math.max(1, blocks));
            if (!model.bytesOf(block).isEmpty()) {
                return block;
            }
        }
        return block;
    }

    private static long[] given(Random random, String call, int blocks, Model model) {
        boolean anyKind = call.equals("instruction") || call.equals("make");
        int block = anyKind ? random.nextInt(blocks + 1) % Math.max(1, blocks + random.nextInt(2)) : drawBlock(random, blocks, model);
        List<Integer> bytes = model.bytesOf(block);
        int at = random.nextInt(20) == 0 ? bytes.size() + random.nextInt(3) - 1 : random.nextInt(bytes.size() + 1);
        switch (call) {
            case "instruction":
                return instruction(random, block);
            case "make":
            case "check":
                return new long[] {block};
            case "byteAt":
                return new long[] {block, random.nextInt(20) == 0 ? -1 : at};
            case "alter":
                return new long[] {block, at, altered(random, bytes, at)};
            case "what":
                return new long[] {block, random.nextInt(6) - 1};
            case "run":
            case "same":
                return new long[] {block, number(random), number(random)};
            case "count":
                return new long[] {random.nextInt(11) - 1};
            case "register":
                return new long[] {random.nextInt(6) - 1};
            case "ended":
                return new long[] {random.nextInt(4) - 1};
            default:
                return new long[0];
        }
    }

    private static long[] instruction(Random random, int block) {
        int op = random.nextInt(40) == 0 ? random.nextInt(12) - 2 : random.nextInt(8);
        int a = random.nextInt(40) == 0 ? random.nextInt(8) - 2 : random.nextInt(4);
        int b = random.nextInt(40) == 0 ? random.nextInt(8) - 2 : random.nextInt(4);
        if (op == 0) {
            b = random.nextBoolean() ? random.nextInt(400) - 200 : NUMBERS[random.nextInt(NUMBERS.length)];
        } else if (op == 6) {
            b = random.nextInt(40) == 0 ? random.nextInt(66) - 3 : random.nextInt(15);
        }
        return new long[] {block, op, a, b};
    }

    /** Mostly a byte of the same kind, so that enough of the altered ones are right. */
    private static int altered(Random random, List<Integer> bytes, int at) {
        int before = at >= 0 && at < bytes.size() ? bytes.get(at) : 0;
        int draw = random.nextInt(10);
        if (draw == 0) {
            return random.nextInt(260) - 2;
        }
        if (draw == 1) {
            return random.nextInt(17);
        }
        if (draw == 2) {
            return random.nextInt(Math.max(1, Math.min(256, bytes.size())));
        }
        if (before >= 4 && before <= 8) {
            return 4 + random.nextInt(5);
        }
        return before < 4 ? random.nextInt(4) : before;
    }

    private static long number(Random random) {
        switch (random.nextInt(4)) {
            case 0:
                return random.nextInt(5) - 2;
            case 1:
                return NUMBERS[random.nextInt(NUMBERS.length)];
            case 2:
                return random.nextBoolean() ? Long.MIN_VALUE : Long.MAX_VALUE;
            default:
                return random.nextLong();
        }
    }

    private static String answer(Counted x, String call, long[] given) {
        int[] n = new int[4];
        for (int i = 0; i < given.length; i++) {
            n[i] = (int) given[i];
        }
        try {
            switch (call) {
                case "block":
                    return "" + x.block();
                case "instruction":
                    return "" + x.instruction(n[0], n[1], n[2], n[3]);
                case "make":
                    return "" + x.make(n[0]);
                case "byteAt":
                    return "" + x.byteAt(n[0], n[1]);
                case "alter":
                    return "" + x.alter(n[0], n[1], n[2]);
                case "check":
                    return "" + x.check(n[0]);
                case "border":
                    return "" + x.border();
                case "what":
                    return "" + x.what(n[0], n[1]);
                case "next":
                    return "" + x.next();
                case "run":
                    return "" + x.run(n[0], given[1], given[2]);
                case "register":
                    return "" + x.register(n[0]);
                case "ended":
                    return "" + x.ended(n[0]);
                case "same":
                    return "" + x.same(n[0], given[1], given[2]);
                default:
                    return "" + x.count(n[0]);
            }
        } catch (RuntimeException e) {
            return "throws." + e.getClass().getSimpleName();
        }
    }

    private void note(Model model, String call, String got) {
        String kind = got;
        if (got.startsWith("throws.")) {
            kind = got;
        } else if (call.equals("run")) {
            String ending = model.answer("ended", new long[] {0});
            seen.merge("end " + ending + " by " + model.answer("ended", new long[] {1}), 1, Integer::sum);
        } else if (call.equals("check")) {
            kind = got.equals("0") ? "right" : "wrong";
        } else if (call.equals("border") || call.equals("next")) {
            kind = got.equals("0") ? "none" : "some";
        } else if (call.equals("make")) {
            kind = got.equals("-1") ? "none" : "some";
        }
        seen.merge(call + " " + kind, 1, Integer::sum);
    }
}
