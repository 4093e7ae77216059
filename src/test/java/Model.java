import java.math.BigInteger;
import java.nio.ByteBuffer;
import java.util.ArrayList;
import java.util.HashMap;
import java.util.List;
import java.util.Map;
import java.util.TreeMap;

/**
 * The document once more, written as plainly as the Java library lets it be and without a look at speed or room.
 * Answers are texts: a number, or "throws." and an exception's name.
 */
final class Model {
    private static final String[] CODES = {
        null, "LOAD", "STORE", "PUSH4", "ADD", "SUB", "MUL", "DIV", "LESS", "BRANCH", "END",
        null, null, null, null, null, "PUSH1",
    };
    private static final Map<String, Integer> BEHIND = Map.of("LOAD", 1, "STORE", 1, "PUSH4", 4, "BRANCH", 2, "PUSH1", 1);

    private record Row(int op, int a, int b) {
    }

    private record Code(int at, String name, int operand, int depthBefore, int depthBehind) {
    }

    private record Left(List<Long> registers, int steps, int ending) {
    }

    private static final class Made {
        final List<Row> rows = new ArrayList<>();
        List<Integer> bytes;
        boolean handed;
        int generation;
    }

    private final int limit;
    private final List<Made> blocks = new ArrayList<>();
    private int now;
    private int wrongOnes;
    private int runs;
    private int steps;
    private Left latest = new Left(List.of(0L, 0L, 0L, 0L), 0, 0);
    private boolean latestByBytes;

    Model(int generations) {
        limit = 1 + BigInteger.valueOf(generations).subtract(BigInteger.ONE).mod(BigInteger.valueOf(8)).intValue();
    }

    int blockCount() {
        return blocks.size();
    }

    /** The bytes of a block; none, when it is rows. */
    List<Integer> bytesOf(int block) {
        List<Integer> bytes = has(block) ? blocks.get(block).bytes : null;
        return bytes == null ? List.of() : bytes;
    }

    private boolean has(int block) {
        return 0 <= block && block < blocks.size();
    }

    private static String refused(String name) {
        return "throws." + name;
    }

    String answer(String call, long[] given) {
        int[] n = new int[given.length];
        for (int i = 0; i < n.length; i++) {
            n[i] = (int) given[i];
        }
        switch (call) {
            case "block":
                if (blocks.size() == 24) {
                    return refused("UnsupportedOperationException");
                }
                blocks.add(new Made());
                return "" + (blocks.size() - 1);
            case "border":
                return border();
            case "next":
                return next();
            case "count":
                return count(n[0]);
            case "register":
                return n[0] < 0 || n[0] > 3 ? refused("IndexOutOfBoundsException") : "" + latest.registers.get(n[0]);
            case "ended":
                return n[0] == 0 ? "" + latest.ending : n[0] == 1 ? (latestByBytes ? "1" : "0") : refused("IndexOutOfBoundsException");
            default:
                return has(n[0]) ? ofBlock(call, blocks.get(n[0]), n, given) : refused("IndexOutOfBoundsException");
        }
    }

    private String ofBlock(String call, Made block, int[] n, long[] given) {
        boolean rows = block.bytes == null;
        switch (call) {
            case "instruction":
                return instruction(block, n[1], n[2], n[3]);
            case "make":
                block.handed = false;
                block.generation = now;
                block.bytes = bytesFor(block.rows);
                if (block.bytes.size() > 300) {
                    block.bytes = null;
                    return "-1";
                }
                return "" + block.bytes.size();
            case "byteAt":
                if (rows) {
                    return refused("IllegalStateException");
                }
                return n[1] < 0 || n[1] >= block.bytes.size() ? refused("IllegalArgumentException") : "" + block.bytes.get(n[1]);
            case "alter":
                if (rows || block.handed) {
                    return refused("IllegalStateException");
                }
                if (n[1] < 0 || n[1] >= block.bytes.size() || n[2] < 0 || n[2] > 255) {
                    return refused("IllegalArgumentException");
                }
                return "" + block.bytes.set(n[1], n[2]);
            case "check":
                return rows ? refused("IllegalStateException") : "" + told(block.bytes);
            case "what":
                return what(block, n[1]);
            case "run":
                runs++;
                latestByBytes = block.handed;
                latest = block.handed ? byBytes(block.bytes, given[1], given[2]) : byRows(block.rows, given[1], given[2]);
                steps += latest.steps;
                return "" + latest.steps;
            case "same":
                if (rows || told(block.bytes) != 0) {
                    return refused("IllegalStateException");
                }
                return byRows(block.rows, given[1], given[2]).equals(byBytes(block.bytes, given[1], given[2])) ? "true" : "false";
            default:
                throw new AssertionError(call);
        }
    }

    private static String instruction(Made block, int op, int a, int b) {
        boolean right = op >= 0 && op <= 7 && a >= 0 && a <= 3
                && (op == 0 || b >= 0 && b <= (op == 6 ? 60 : 3));
        if (!right) {
            return refused("IllegalArgumentException");
        }
        if (block.rows.size() == 60) {
            return refused("UnsupportedOperationException");
        }
        block.rows.add(new Row(op, a, b));
        block.bytes = null;
        block.handed = false;
        return "" + block.rows.size();
    }

    private String what(Made block, int what) {
        boolean rows = block.bytes == null;
        switch (what) {
            case 0:
                return rows ? "0" : block.handed ? "2" : "1";
            case 1:
                return rows ? "-1" : "" + block.generation;
            case 2:
                return "" + block.rows.size();
            case 3:
                return rows ? "0" : "" + block.bytes.size();
            default:
                return refused("IllegalArgumentException");
        }
    }

    private String border() {
        int handed = 0;
        for (Made each : blocks) {
            if (each.bytes != null && !each.handed) {
                if (told(each.bytes) == 0) {
                    each.handed = true;
                    handed++;
                } else {
                    each.bytes = null;
                    wrongOnes++;
                }
            }
        }
        return "" + handed;
    }

    private String next() {
        now++;
        int gone = 0;
        for (Made each : blocks) {
            // The generations now - limit + 1 .. now live: limit of them.
            if (each.bytes != null && now - each.generation >= limit) {
                each.bytes = null;
                each.handed = false;
                gone++;
            }
        }
        return "" + gone;
    }

    private String count(int what) {
        long handed = blocks.stream().filter(each -> each.bytes != null && each.handed).count();
        long waiting = blocks.stream().filter(each -> each.bytes != null && !each.handed).count();
        long oldest = now < limit ? 0 : now - limit + 1;
        long[] answers = {blocks.size(), now, oldest, handed, waiting, wrongOnes, runs, steps, limit};
        return what < 0 || what >= answers.length ? "-1" : "" + answers[what];
    }

    private static List<Integer> bytesFor(List<Row> rows) {
        List<Integer> bytes = new ArrayList<>();
        Map<Integer, Integer> starts = new HashMap<>();
        // Twice over: the second time all starts are known.
        for (int time = 0; time < 2; time++) {
            bytes.clear();
            for (int i = 0; i < rows.size(); i++) {
                starts.put(i, bytes.size());
                addRow(bytes, rows.get(i), starts, rows.size());
            }
            starts.put(rows.size(), bytes.size());
            bytes.add(10);
        }
        return bytes;
    }

    private static void addRow(List<Integer> bytes, Row row, Map<Integer, Integer> starts, int end) {
        if (row.op == 0 && row.b == (byte) row.b) {
            bytes.addAll(List.of(16, Byte.toUnsignedInt((byte) row.b), 2, row.a));
        } else if (row.op == 0) {
            bytes.add(3);
            for (byte each : ByteBuffer.allocate(4).putInt(row.b).array()) {
                bytes.add(Byte.toUnsignedInt(each));
            }
            bytes.addAll(List.of(2, row.a));
        } else if (row.op == 6) {
            int goal = starts.getOrDefault(Math.min(row.b, end), 0);
            bytes.addAll(List.of(1, row.a, 9, goal / 256, goal % 256));
        } else if (row.op == 7) {
            bytes.addAll(List.of(1, row.b, 2, row.a));
        } else {
            bytes.addAll(List.of(1, row.a, 1, row.b, row.op + 3, 2, row.a));
        }
    }

    private static int change(String code) {
        return List.of("LOAD", "PUSH4", "PUSH1").contains(code) ? 1 : code.equals("END") ? 0 : -1;
    }

    private static int told(List<Integer> bytes) {
        TreeMap<Integer, Code> codes = new TreeMap<>();
        int wrong = read(bytes, codes);
        if (wrong >= 0) {
            return 1 + wrong;
        }
        for (Code each : codes.values()) {
            if (each.name.equals("BRANCH")) {
                Code goal = codes.get(each.operand);
                if (each.depthBehind != 0 || goal == null || goal.depthBefore != 0) {
                    return 1 + each.at;
                }
            }
        }
        return 0;
    }

    /** Reads the codes: the byte that is wrong, or -1. */
    private static int read(List<Integer> bytes, Map<Integer, Code> codes) {
        int depth = 0;
        int at = 0;
        while (at < bytes.size()) {
            int number = bytes.get(at);
            String name = number < CODES.length ? CODES[number] : null;
            if (name == null) {
                return at;
            }
            int behind = BEHIND.getOrDefault(name, 0);
            if (at + behind >= bytes.size()) {
                return at;
            }
            BigInteger operand = BigInteger.ZERO;
            for (int i = 1; i <= behind; i++) {
                operand = operand.shiftLeft(8).add(BigInteger.valueOf(bytes.get(at + i)));
            }
            boolean namesRegister = name.equals("LOAD") || name.equals("STORE");
            if (namesRegister && operand.intValue() > 3) {
                return at;
            }
            boolean ofTwo = number >= 4 && number <= 8;
            int needed = ofTwo ? 2 : name.equals("STORE") || name.equals("BRANCH") ? 1 : 0;
            int behindDepth = depth + change(name);
            if (depth < needed || behindDepth > 4) {
                return at;
            }
            codes.put(at, new Code(at, name, name.equals("PUSH1") ? operand.byteValue() : operand.intValue(), depth, behindDepth));
            if (name.equals("END")) {
                return depth != 0 ? at : at + 1 < bytes.size() ? at + 1 : -1;
            }
            depth = behindDepth;
            at += 1 + behind;
        }
        return bytes.size();
    }

    private static Long worked(int op, long a, long b) {
        BigInteger x = BigInteger.valueOf(a);
        BigInteger y = BigInteger.valueOf(b);
        switch (op) {
            case 1:
                return x.add(y).longValue();
            case 2:
                return x.subtract(y).longValue();
            case 3:
                return x.multiply(y).longValue();
            case 4:
                return y.signum() == 0 ? null : (Long) x.divide(y).longValue();
            default:
                return x.compareTo(y) < 0 ? 1L : 0L;
        }
    }

    private static Left byRows(List<Row> rows, long x, long y) {
        List<Long> registers = new ArrayList<>(List.of(x, y, 0L, 0L));
        int at = 0;
        int done = 0;
        while (at < rows.size()) {
            if (done == 2000) {
                return new Left(registers, done, 2);
            }
            Row row = rows.get(at);
            at++;
            if (row.op == 0) {
                registers.set(row.a, (long) row.b);
            } else if (row.op == 6) {
                at = registers.get(row.a) == 0 ? at : row.b;
            } else if (row.op == 7) {
                registers.set(row.a, registers.get(row.b));
            } else {
                Long result = worked(row.op, registers.get(row.a), registers.get(row.b));
                if (result == null) {
                    return new Left(registers, done, 1);
                }
                registers.set(row.a, result);
            }
            done++;
        }
        return new Left(registers, done, 0);
    }

    private static Left byBytes(List<Integer> bytes, long x, long y) {
        TreeMap<Integer, Code> codes = new TreeMap<>();
        read(bytes, codes);
        List<Long> registers = new ArrayList<>(List.of(x, y, 0L, 0L));
        List<Long> pile = new ArrayList<>();
        Code code = codes.get(0);
        int done = 0;
        while (!code.name.equals("END")) {
            if (done == 2000) {
                return new Left(registers, done, 2);
            }
            Code following = codes.higherEntry(code.at).getValue();
            if (code.name.equals("LOAD")) {
                pile.add(registers.get(code.operand));
            } else if (code.name.startsWith("PUSH")) {
                pile.add((long) code.operand);
            } else {
                long first = pile.remove(pile.size() - 1);
                if (code.name.equals("STORE")) {
                    registers.set(code.operand, first);
                    done++;
                } else if (code.name.equals("BRANCH")) {
                    following = first == 0 ? following : codes.get(code.operand);
                    done++;
                } else {
                    long second = pile.remove(pile.size() - 1);
                    Long result = worked(bytes.get(code.at) - 3, second, first);
                    if (result == null) {
                        return new Left(registers, done, 1);
                    }
                    pile.add(result);
                }
            }
            code = following;
        }
        return new Left(registers, done, 0);
    }
}
