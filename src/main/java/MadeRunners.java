import java.util.ArrayList;
import java.util.Arrays;

/** Blocks of instructions on four registers, run as rows or as the bytes that were made of them. */
public final class MadeRunners {
    public static final int NONE = -1;

    private static final int MAX_BLOCKS = 24;
    private static final int MAX_INSTRUCTIONS = 60;
    private static final int MAX_BYTES = 300;
    private static final int MAX_STEPS = 2000;
    private static final int MAX_DEPTH = 4;
    private static final int MAX_GENERATIONS = 8;
    private static final int REGISTERS = 4;
    private static final int HIGHEST_BYTE = 255;

    private static final int ROWS = 0;
    private static final int WAITING = 1;
    private static final int HANDED = 2;

    private static final int AT_END = 0;
    private static final int FAULT = 1;
    private static final int STOPPED = 2;

    private static final int OP_SET = 0;
    private static final int OP_ADD = 1;
    private static final int OP_SUB = 2;
    private static final int OP_MUL = 3;
    private static final int OP_DIV = 4;
    private static final int OP_LESS = 5;
    private static final int OP_JUMP = 6;
    private static final int OP_MOVE = 7;

    private static final int CODE_LOAD = 1;
    private static final int CODE_STORE = 2;
    private static final int CODE_PUSH_FOUR = 3;
    private static final int CODE_ADD = 4;
    private static final int CODE_SUB = 5;
    private static final int CODE_MUL = 6;
    private static final int CODE_DIV = 7;
    private static final int CODE_LESS = 8;
    private static final int CODE_BRANCH = 9;
    private static final int CODE_END = 10;
    private static final int CODE_PUSH_ONE = 16;

    /** ADD to LESS stand in the same order among the ops and among the codes. */
    private static final int OP_TO_CODE = CODE_ADD - OP_ADD;

    private final int generationLimit;
    private final ArrayList<Block> blocks = new ArrayList<Block>();
    private final Checker checker = new Checker();
    private final Runner latest = new Runner();
    /** same() has runners of its own, so that what the latest run() left stays. */
    private final Runner rowsTrial = new Runner();
    private final Runner bytesTrial = new Runner();
    private int generation;
    private int wrongAtBorders;
    private int runs;
    private int allSteps;

    public MadeRunners(int generations) {
        // The wrap-around of the least int does no harm: 8 divides 2 to the 32nd.
        generationLimit = 1 + Math.floorMod(generations - 1, MAX_GENERATIONS);
    }

    public int block() throws UnsupportedOperationException {
        if (blocks.size() >= MAX_BLOCKS) {
            throw new UnsupportedOperationException("there are twenty-four blocks");
        }
        blocks.add(new Block());
        return blocks.size() - 1;
    }

    public int instruction(int block, int op, int a, int b)
            throws IndexOutOfBoundsException, IllegalArgumentException, UnsupportedOperationException {
        Block told = find(block);
        if (op < OP_SET || op > OP_MOVE || !isRegister(a) || !isOperand(op, b)) {
            throw new IllegalArgumentException("no such instruction");
        }
        if (told.instructionCount >= MAX_INSTRUCTIONS) {
            throw new UnsupportedOperationException("there are sixty instructions");
        }
        told.addInstruction(op, a, b);
        told.becomeRows();
        return told.instructionCount;
    }

    public int make(int block) throws IndexOutOfBoundsException {
        Block told = find(block);
        if (!told.canBeMade()) {
            told.becomeRows();
            return NONE;
        }
        told.writeBytes();
        told.state = WAITING;
        told.generation = generation;
        return told.byteCount;
    }

    public int byteAt(int block, int i)
            throws IndexOutOfBoundsException, IllegalStateException, IllegalArgumentException {
        Block told = find(block);
        if (told.state == ROWS) {
            throw new IllegalStateException("the block is rows");
        }
        if (!told.hasByte(i)) {
            throw new IllegalArgumentException("no such byte");
        }
        return told.read(i);
    }

    public int alter(int block, int i, int v)
            throws IndexOutOfBoundsException, IllegalStateException, IllegalArgumentException {
        Block told = find(block);
        if (told.state != WAITING) {
            throw new IllegalStateException("the block does not wait");
        }
        if (!told.hasByte(i) || v < 0 || v > HIGHEST_BYTE) {
            throw new IllegalArgumentException("no such byte");
        }
        int before = told.read(i);
        told.overwrite(i, v);
        return before;
    }

    public int check(int block) throws IndexOutOfBoundsException, IllegalStateException {
        Block told = find(block);
        if (told.state == ROWS) {
            throw new IllegalStateException("the block is rows");
        }
        return checker.verdictOn(told);
    }

    public int border() {
        int handed = 0;
        for (int i = 0; i < blocks.size(); i++) {
            Block each = blocks.get(i);
            if (each.state != WAITING) {
                continue;
            }
            if (checker.verdictOn(each) == Checker.RIGHT) {
                each.state = HANDED;
                handed++;
            } else {
                each.becomeRows();
                wrongAtBorders++;
            }
        }
        return handed;
    }

    public int what(int block, int what) throws IndexOutOfBoundsException, IllegalArgumentException {
        Block told = find(block);
        switch (what) {
            case 0:
                return told.state;
            case 1:
                return told.generation;
            case 2:
                return told.instructionCount;
            case 3:
                return told.byteCount;
            default:
                throw new IllegalArgumentException("no such what");
        }
    }

    public int next() {
        generation++;
        int oldest = oldestGeneration();
        int dropped = 0;
        for (int i = 0; i < blocks.size(); i++) {
            Block each = blocks.get(i);
            if (each.state != ROWS && each.generation < oldest) {
                each.becomeRows();
                dropped++;
            }
        }
        return dropped;
    }

    public int run(int block, long x, long y) throws IndexOutOfBoundsException {
        Block told = find(block);
        if (told.state == HANDED) {
            latest.followBytes(told, x, y);
        } else {
            latest.followRows(told, x, y);
        }
        runs++;
        allSteps += latest.steps;
        return latest.steps;
    }

    public long register(int r) throws IndexOutOfBoundsException {
        if (!isRegister(r)) {
            throw new IndexOutOfBoundsException("no such register");
        }
        return latest.load(r);
    }

    public int ended(int what) throws IndexOutOfBoundsException {
        switch (what) {
            case 0:
                return latest.ending;
            case 1:
                return latest.byBytes ? 1 : 0;
            default:
                throw new IndexOutOfBoundsException("no such what");
        }
    }

    public boolean same(int block, long x, long y) throws IndexOutOfBoundsException, IllegalStateException {
        Block told = find(block);
        if (told.state == ROWS || checker.verdictOn(told) != Checker.RIGHT) {
            throw new IllegalStateException("the block has no bytes that are right");
        }
        rowsTrial.followRows(told, x, y);
        bytesTrial.followBytes(told, x, y);
        return rowsTrial.didAs(bytesTrial);
    }

    public int count(int what) {
        switch (what) {
            case 0:
                return blocks.size();
            case 1:
                return generation;
            case 2:
                return oldestGeneration();
            case 3:
                return blocksThatAre(HANDED);
            case 4:
                return blocksThatAre(WAITING);
            case 5:
                return wrongAtBorders;
            case 6:
                return runs;
            case 7:
                return allSteps;
            case 8:
                return generationLimit;
            default:
                return NONE;
        }
    }

    private Block find(int block) {
        if (block < 0 || block >= blocks.size()) {
            throw new IndexOutOfBoundsException("no such block");
        }
        return blocks.get(block);
    }

    private int oldestGeneration() {
        return Math.max(0, generation - generationLimit + 1);
    }

    private int blocksThatAre(int state) {
        int found = 0;
        for (int i = 0; i < blocks.size(); i++) {
            if (blocks.get(i).state == state) {
                found++;
            }
        }
        return found;
    }

    private static boolean isRegister(int r) {
        return r >= 0 && r < REGISTERS;
    }

    private static boolean isOperand(int op, int b) {
        switch (op) {
            case OP_SET:
                return true;
            case OP_JUMP:
                return b >= 0 && b <= MAX_INSTRUCTIONS;
            default:
                return isRegister(b);
        }
    }

    /** How many bytes a code has with what stands behind it; 0, when it is no code. */
    private static int lengthOf(int code) {
        switch (code) {
            case CODE_LOAD:
            case CODE_STORE:
            case CODE_PUSH_ONE:
                return 2;
            case CODE_PUSH_FOUR:
                return 5;
            case CODE_BRANCH:
                return 3;
            case CODE_ADD:
            case CODE_SUB:
            case CODE_MUL:
            case CODE_DIV:
            case CODE_LESS:
            case CODE_END:
                return 1;
            default:
                return 0;
        }
    }

    /** One block: its instructions, and its bytes while it is not rows. */
    private static final class Block {
        private final int[] ops = new int[MAX_INSTRUCTIONS];
        private final int[] firsts = new int[MAX_INSTRUCTIONS];
        private final int[] seconds = new int[MAX_INSTRUCTIONS];
        /** The byte of each instruction's first code, and behind the last one END's. */
        private final int[] starts = new int[MAX_INSTRUCTIONS + 1];
        private final int[] bytes = new int[MAX_BYTES];
        private int instructionCount;
        private int byteCount;
        private int state = ROWS;
        private int generation = NONE;

        private void addInstruction(int op, int a, int b) {
            int i = instructionCount;
            if (i >= MAX_INSTRUCTIONS) {
                return;
            }
            ops[i] = op;
            firsts[i] = a;
            seconds[i] = b;
            // No length depends on what is told later, not even a JUMP's: a start that is known stays.
            starts[i + 1] = starts[i] + bytesFor(op, b);
            instructionCount = i + 1;
        }

        private void becomeRows() {
            state = ROWS;
            generation = NONE;
            byteCount = 0;
        }

        private boolean canBeMade() {
            return startOf(instructionCount) + lengthOf(CODE_END) <= MAX_BYTES;
        }

        private void writeBytes() {
            byteCount = 0;
            for (int i = 0; i < instructionCount && i < MAX_INSTRUCTIONS; i++) {
                writeInstruction(ops[i], firsts[i], seconds[i]);
            }
            append(CODE_END);
        }

        private void writeInstruction(int op, int a, int b) {
            switch (op) {
                case OP_SET:
                    writePush(b);
                    writeWithRegister(CODE_STORE, a);
                    break;
                case OP_JUMP:
                    writeWithRegister(CODE_LOAD, a);
                    writeBranch(startOf(b));
                    break;
                case OP_MOVE:
                    writeWithRegister(CODE_LOAD, b);
                    writeWithRegister(CODE_STORE, a);
                    break;
                default:
                    writeWithRegister(CODE_LOAD, a);
                    writeWithRegister(CODE_LOAD, b);
                    append(op + OP_TO_CODE);
                    writeWithRegister(CODE_STORE, a);
                    break;
            }
        }

        private void writeWithRegister(int code, int r) {
            append(code);
            append(r);
        }

        private void writePush(int number) {
            if (fitsOneByte(number)) {
                append(CODE_PUSH_ONE);
                append(number);
                return;
            }
            append(CODE_PUSH_FOUR);
            append(number >> 24);
            append(number >> 16);
            append(number >> 8);
            append(number);
        }

        private void writeBranch(int goal) {
            append(CODE_BRANCH);
            append(goal >> 8);
            append(goal);
        }

        private void append(int v) {
            if (byteCount < MAX_BYTES) {
                bytes[byteCount] = v & HIGHEST_BYTE;
                byteCount++;
            }
        }

        private int startOf(int instruction) {
            int i = Math.max(0, Math.min(instruction, instructionCount));
            return i < starts.length ? starts[i] : 0;
        }

        private boolean hasByte(int i) {
            return i >= 0 && i < byteCount && i < MAX_BYTES;
        }

        /** A byte, 0 .. 255; 0, which is no code, where there is none. */
        private int read(int i) {
            return hasByte(i) ? bytes[i] : 0;
        }

        private int readTwo(int i) {
            return (read(i) << 8) | read(i + 1);
        }

        private int readFour(int i) {
            return (readTwo(i) << 16) | readTwo(i + 2);
        }

        private void overwrite(int i, int v) {
            if (hasByte(i)) {
                bytes[i] = v;
            }
        }

        private static int bytesFor(int op, int b) {
            switch (op) {
                case OP_SET:
                    return lengthOf(fitsOneByte(b) ? CODE_PUSH_ONE : CODE_PUSH_FOUR) + lengthOf(CODE_STORE);
                case OP_JUMP:
                    return lengthOf(CODE_LOAD) + lengthOf(CODE_BRANCH);
                case OP_MOVE:
                    return lengthOf(CODE_LOAD) + lengthOf(CODE_STORE);
                default:
                    return 2 * lengthOf(CODE_LOAD) + lengthOf(op + OP_TO_CODE) + lengthOf(CODE_STORE);
            }
        }

        private static boolean fitsOneByte(int number) {
            return number >= -128 && number <= 127;
        }
    }

    /** Tells whether bytes, which may have been altered, can be run. */
    private static final class Checker {
        private static final int RIGHT = 0;
        private static final int NO_CODE = -1;

        /** The depth before each code, by its first byte; NO_CODE at all other bytes. */
        private final int[] depths = new int[MAX_BYTES];

        private int verdictOn(Block block) {
            int told = verdictOnCodes(block);
            return told == RIGHT ? verdictOnBranches(block) : told;
        }

        private int verdictOnCodes(Block block) {
            Arrays.fill(depths, NO_CODE);
            int depth = 0;
            int at = 0;
            while (at < block.byteCount && at < MAX_BYTES) {
                int code = block.read(at);
                int length = lengthOf(code);
                if (length < 1 || !standsWhole(block, at, code) || depth < takenBy(code)) {
                    return wrongAt(at);
                }
                depths[at] = depth;
                if (code == CODE_END) {
                    return verdictOnEnd(block, at, depth);
                }
                depth = depth - takenBy(code) + addedBy(code);
                if (depth > MAX_DEPTH) {
                    return wrongAt(at);
                }
                at += length;
            }
            return wrongAt(block.byteCount);
        }

        private int verdictOnEnd(Block block, int at, int depth) {
            if (depth != 0) {
                return wrongAt(at);
            }
            return at + 1 < block.byteCount ? wrongAt(at + 1) : RIGHT;
        }

        private int verdictOnBranches(Block block) {
            for (int at = 0; at < block.byteCount && at < MAX_BYTES; at++) {
                boolean isBranch = depths[at] != NO_CODE && block.read(at) == CODE_BRANCH;
                if (isBranch && (depths[at] != takenBy(CODE_BRANCH) || !isGoal(block.readTwo(at + 1)))) {
                    return wrongAt(at);
                }
            }
            return RIGHT;
        }

        /** All bytes behind the last code hold NO_CODE, so the length of the block needs no test here. */
        private boolean isGoal(int at) {
            return at >= 0 && at < MAX_BYTES && depths[at] == 0;
        }

        private static boolean standsWhole(Block block, int at, int code) {
            if (at + lengthOf(code) > block.byteCount) {
                return false;
            }
            boolean namesRegister = code == CODE_LOAD || code == CODE_STORE;
            return !namesRegister || isRegister(block.read(at + 1));
        }

        private static int takenBy(int code) {
            switch (code) {
                case CODE_STORE:
                case CODE_BRANCH:
                    return 1;
                case CODE_ADD:
                case CODE_SUB:
                case CODE_MUL:
                case CODE_DIV:
                case CODE_LESS:
                    return 2;
                default:
                    return 0;
            }
        }

        private static int addedBy(int code) {
            switch (code) {
                case CODE_STORE:
                case CODE_BRANCH:
                case CODE_END:
                    return 0;
                default:
                    return 1;
            }
        }

        private static int wrongAt(int at) {
            return 1 + at;
        }
    }

    /** Runs blocks either way, and keeps what the latest of its runs left. */
    private static final class Runner {
        /** Every loop goes through a BRANCH, which is a step: no run does more codes than this. */
        private static final int MAX_CODES = (MAX_STEPS + 1) * MAX_BYTES;

        private final long[] registers = new long[REGISTERS];
        private final long[] pile = new long[MAX_DEPTH];
        private int height;
        private int steps;
        private int ending = AT_END;
        private boolean byBytes;

        private void begin(long x, long y, boolean withBytes) {
            Arrays.fill(registers, 0L);
            registers[0] = x;
            registers[1] = y;
            height = 0;
            steps = 0;
            ending = AT_END;
            byBytes = withBytes;
        }

        private void followRows(Block block, long x, long y) {
            begin(x, y, false);
            int size = Math.min(block.instructionCount, MAX_INSTRUCTIONS);
            int at = 0;
            while (steps < MAX_STEPS && at >= 0 && at < size) {
                int op = block.ops[at];
                int a = block.firsts[at];
                int b = block.seconds[at];
                if (op == OP_DIV && load(b) == 0) {
                    ending = FAULT;
                    return;
                }
                if (op == OP_JUMP) {
                    at = load(a) != 0 ? b : at + 1;
                } else {
                    store(a, resultOf(op, a, b));
                    at++;
                }
                steps++;
            }
            ending = at < size ? STOPPED : AT_END;
        }

        private long resultOf(int op, int a, int b) {
            switch (op) {
                case OP_SET:
                    return b;
                case OP_MOVE:
                    return load(b);
                default:
                    return worked(op, load(a), load(b));
            }
        }

        /** Only for bytes that a Checker found right. */
        private void followBytes(Block block, long x, long y) {
            begin(x, y, true);
            int at = 0;
            for (int codes = 0; codes < MAX_CODES; codes++) {
                int code = block.read(at);
                if (code == CODE_END) {
                    return;
                }
                if (steps >= MAX_STEPS) {
                    break;
                }
                if (code == CODE_DIV && topIsZero()) {
                    ending = FAULT;
                    return;
                }
                at = follow(block, at, code);
            }
            ending = STOPPED;
        }

        /** Does one code, and tells where the next one stands. */
        private int follow(Block block, int at, int code) {
            switch (code) {
                case CODE_LOAD:
                    push(load(block.read(at + 1)));
                    break;
                case CODE_STORE:
                    store(block.read(at + 1), pop());
                    steps++;
                    break;
                case CODE_PUSH_FOUR:
                    push(block.readFour(at + 1));
                    break;
                case CODE_PUSH_ONE:
                    push((byte) block.read(at + 1));
                    break;
                case CODE_BRANCH:
                    steps++;
                    if (pop() != 0) {
                        return block.readTwo(at + 1);
                    }
                    break;
                default:
                    workOnPile(code - OP_TO_CODE);
                    break;
            }
            return at + lengthOf(code);
        }

        private void workOnPile(int op) {
            long right = pop();
            long left = pop();
            push(worked(op, left, right));
        }

        private boolean didAs(Runner other) {
            for (int r = 0; r < REGISTERS; r++) {
                if (registers[r] != other.registers[r]) {
                    return false;
                }
            }
            return steps == other.steps && ending == other.ending;
        }

        private long load(int r) {
            return isRegister(r) ? registers[r] : 0;
        }

        private void store(int r, long v) {
            if (isRegister(r)) {
                registers[r] = v;
            }
        }

        private void push(long v) {
            if (height < MAX_DEPTH) {
                pile[height] = v;
                height++;
            }
        }

        private long pop() {
            if (height < 1) {
                return 0;
            }
            height--;
            return pile[height];
        }

        private boolean topIsZero() {
            return height > 0 && pile[height - 1] == 0;
        }

        private static long worked(int op, long left, long right) {
            switch (op) {
                case OP_ADD:
                    return left + right;
                case OP_SUB:
                    return left - right;
                case OP_MUL:
                    return left * right;
                case OP_DIV:
                    // Java's division answers the least number for itself by -1, as the document asks.
                    return right == 0 ? 0 : left / right;
                case OP_LESS:
                    return left < right ? 1 : 0;
                default:
                    return 0;
            }
        }
    }
}
