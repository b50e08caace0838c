import java.util.Arrays;

public final class GraphCompiler {
    public static final int REFUSED = -1;
    public static final int BAD = -2;
    public static final int DONE = 0;
    public static final long NONE = 1000000000000L;
    public static final long TRAP = 1000000000001L;
    public static final long TIRED = 1000000000002L;

    private static final int CONST = 0;
    private static final int LOAD = 1;
    private static final int STORE = 2;
    private static final int ADD = 3;
    private static final int SUB = 4;
    private static final int MUL = 5;
    private static final int DIV = 6;
    private static final int AND = 7;
    private static final int OR = 8;
    private static final int XOR = 9;
    private static final int SHL = 10;
    private static final int SHR = 11;
    private static final int NEG = 12;
    private static final int DUP = 13;
    private static final int SWAP = 14;
    private static final int POP = 15;
    private static final int IFZERO = 16;
    private static final int IFLESS = 17;
    private static final int GOTO = 18;
    private static final int RETURN = 19;
    private static final int INC = 20;

    private static final int[] TAKES = {0, 0, 1, 2, 2, 2, 2, 2, 2, 2, 2, 2, 1, 1, 2, 1, 1, 2, 0, 1, 0};
    private static final int[] PUTS = {1, 1, 0, 1, 1, 1, 1, 1, 1, 1, 1, 1, 1, 2, 2, 0, 0, 0, 0, 0, 0};
    /** 1 for the ops whose operands may change places. */
    private static final int[] EITHER_WAY = {0, 0, 0, 1, 0, 1, 0, 1, 1, 1, 0, 0, 0, 0, 0, 0, 0, 0, 0, 0, 0};

    private static final int PLACES = 24;
    private static final int LOCALS = 8;
    private static final int GIVEN_LOCALS = 4;
    private static final int CELLS = 4;
    private static final int SLOTS = LOCALS + CELLS;
    private static final int MOST_FUEL = 500;
    private static final int NOWHERE = -1;

    private final Code written = new Code();
    private final Code compiled = new Code();
    private final Check check = new Check();
    private final Blocks blocks = new Blocks();
    private final Facts facts = new Facts();
    private final Graph graph = new Graph();
    private final Writer writer = new Writer();
    private final Machine machine = new Machine();
    private int badPlace = NOWHERE;

    public GraphCompiler() {
    }

    public int emit(int op, int a, int b) {
        if (written.size >= PLACES || !Code.fits(op, a)) {
            return REFUSED;
        }
        written.size++;
        written.put(written.size - 1, op, a, b);
        return written.size - 1;
    }

    public int patch(int i, int op, int a, int b) {
        if (!written.has(i) || !Code.fits(op, a)) {
            return REFUSED;
        }
        written.put(i, op, a, b);
        return DONE;
    }

    public int clear() {
        int before = written.size;
        written.size = 0;
        return before;
    }

    public int compile() {
        badPlace = check.findBad(written);
        if (badPlace != NOWHERE) {
            return BAD;
        }
        compiled.copyFrom(written);
        blocks.cut(compiled, check.heights);
        facts.gather(compiled, blocks, graph);
        return blocks.size;
    }

    public int badAt() {
        return badPlace;
    }

    public int leader(int block) {
        return blocks.has(block) ? blocks.leaders[block] : REFUSED;
    }

    public int height(int block) {
        return blocks.has(block) ? blocks.heights[block] : REFUSED;
    }

    public int follower(int block, int i) {
        int next = blocks.next(block, i);
        return next == NOWHERE ? REFUSED : next;
    }

    public boolean reached(int block) {
        return blocks.has(block) && facts.met[block];
    }

    public long known(int block, int slot) {
        if (!blocks.has(block) || slot < 0 || slot >= LOCALS + blocks.heights[block]) {
            return NONE;
        }
        return facts.holds(block, slot) ? facts.number(block, slot) : NONE;
    }

    public int nodes(int block) {
        if (!blocks.has(block)) {
            return REFUSED;
        }
        buildGraph(block);
        return graph.countUsed();
    }

    public int pinned(int block) {
        if (!blocks.has(block)) {
            return REFUSED;
        }
        buildGraph(block);
        return graph.countPinned();
    }

    public int saved(int block) {
        if (!blocks.has(block)) {
            return REFUSED;
        }
        buildGraph(block);
        return blocks.countAsked(compiled, block) - graph.countUsed();
    }

    public long outcome(int block, int slot) {
        if (!blocks.has(block)) {
            return NONE;
        }
        buildGraph(block);
        return graph.endsConst(slot) ? graph.endNumber(slot) : NONE;
    }

    public int text(int block, int slot, int i) {
        if (!blocks.has(block)) {
            return REFUSED;
        }
        buildGraph(block);
        if (!graph.hasSlot(slot)) {
            return REFUSED;
        }
        writer.writeOut(graph, graph.slots[slot]);
        if (i == -1) {
            return writer.length;
        }
        return i >= 0 && i < writer.length ? writer.letters[i] : REFUSED;
    }

    public long run(int a, int b, int c, int d, int fuel) {
        if (blocks.size == 0) {
            return NONE;
        }
        machine.begin(a, b, c, d);
        return machine.enterBlocks(compiled, blocks, Math.max(1, Math.min(MOST_FUEL, fuel)));
    }

    public int count(int what) {
        switch (what) {
            case 0:
                return written.size;
            case 1:
                return blocks.size;
            case 2:
                return facts.countMet(blocks.size);
            case 3:
                return machine.entered;
            default:
                return REFUSED;
        }
    }

    private void buildGraph(int block) {
        graph.build(compiled, blocks, facts, block);
    }

    private static boolean isArithmetic(int op) {
        return op >= ADD && op <= NEG;
    }

    private static boolean isJump(int op) {
        return op >= IFZERO && op <= GOTO;
    }

    private static boolean isBranch(int op) {
        return op == IFZERO || op == IFLESS;
    }

    private static boolean endsBlock(int op) {
        return op >= IFZERO && op <= RETURN;
    }

    private static boolean goesOn(int op) {
        return op != GOTO && op != RETURN;
    }

    /** The library's fill is allowed over numbers alone. */
    private static void forgetAll(boolean[] marks) {
        for (int i = 0; i < marks.length; i++) {
            marks[i] = false;
        }
    }

    /** NEG looks at x alone. */
    private static int calculate(int op, int x, int y) {
        switch (op) {
            case ADD:
                return x + y;
            case SUB:
                return x - y;
            case MUL:
                return x * y;
            case DIV:
                return y == 0 ? 0 : x / y;
            case AND:
                return x & y;
            case OR:
                return x | y;
            case XOR:
                return x ^ y;
            case SHL:
                return x << y;
            case SHR:
                return x >> y;
            case NEG:
                return -x;
            default:
                return 0;
        }
    }

    /** Instructions; one copy is being written, another is what was compiled last. */
    private static final class Code {
        final int[] ops = new int[PLACES];
        final int[] as = new int[PLACES];
        final int[] bs = new int[PLACES];
        int size = 0;

        static boolean fits(int op, int a) {
            if (op < CONST || op > INC) {
                return false;
            }
            if (op == LOAD || op == STORE || op == INC) {
                return a >= 0 && a < LOCALS;
            }
            return !isJump(op) || a >= 0 && a < PLACES;
        }

        boolean has(int place) {
            return place >= 0 && place < size;
        }

        void put(int place, int op, int a, int b) {
            if (has(place)) {
                ops[place] = op;
                as[place] = a;
                bs[place] = b;
            }
        }

        void copyFrom(Code other) {
            size = other.size;
            System.arraycopy(other.ops, 0, ops, 0, PLACES);
            System.arraycopy(other.as, 0, as, 0, PLACES);
            System.arraycopy(other.bs, 0, bs, 0, PLACES);
        }
    }

    /** THE CHECK. It has rows of its own, so that BAD code leaves what is compiled alone. */
    private static final class Check {
        static final int NO_HEIGHT = -1;

        final int[] heights = new int[PLACES];
        private final boolean[] looked = new boolean[PLACES];

        int findBad(Code code) {
            if (code.size == 0) {
                return 0;
            }
            Arrays.fill(heights, NO_HEIGHT);
            forgetAll(looked);
            heights[0] = 0;
            int bad = NOWHERE;
            int place = 0;
            for (int step = 0; step < PLACES && place != NOWHERE && bad == NOWHERE; step++) {
                looked[place] = true;
                bad = lookAt(code, place);
                place = leastWaiting();
            }
            return bad;
        }

        private int leastWaiting() {
            for (int place = 0; place < PLACES; place++) {
                if (heights[place] != NO_HEIGHT && !looked[place]) {
                    return place;
                }
            }
            return NOWHERE;
        }

        private int lookAt(Code code, int place) {
            int op = code.ops[place];
            if (TAKES[op] > heights[place]) {
                return place;
            }
            int after = heights[place] - TAKES[op] + PUTS[op];
            if (after > CELLS) {
                return place;
            }
            int bad = isJump(op) ? handHeight(code, place, code.as[place], after) : NOWHERE;
            if (bad == NOWHERE && goesOn(op)) {
                bad = handHeight(code, place, place + 1, after);
            }
            return bad;
        }

        private int handHeight(Code code, int from, int to, int after) {
            if (!code.has(to)) {
                return from;
            }
            if (heights[to] == NO_HEIGHT) {
                heights[to] = after;
            }
            return heights[to] == after ? NOWHERE : to;
        }
    }

    /** Where the blocks of checked code lie and which follow which. */
    private static final class Blocks {
        static final int WAYS = 2;

        final int[] leaders = new int[PLACES];
        final int[] lasts = new int[PLACES];
        final int[] heights = new int[PLACES];
        private final int[] nexts = new int[PLACES * WAYS];
        private final boolean[] leads = new boolean[PLACES];
        private final int[] numbers = new int[PLACES];
        int size = 0;

        boolean has(int block) {
            return block >= 0 && block < size;
        }

        int next(int block, int way) {
            return has(block) && way >= 0 && way < WAYS ? nexts[block * WAYS + way] : NOWHERE;
        }

        int countAsked(Code code, int block) {
            int asked = 0;
            for (int place = leaders[block]; place <= lasts[block]; place++) {
                int op = code.ops[place];
                if (isArithmetic(op) || op == INC) {
                    asked++;
                }
            }
            return asked;
        }

        void cut(Code code, int[] placeHeights) {
            markLeaders(code, placeHeights);
            size = 0;
            for (int place = 0; place < code.size; place++) {
                numbers[place] = NOWHERE;
                if (leads[place]) {
                    numbers[place] = size;
                    leaders[size] = place;
                    lasts[size] = findLast(code, place);
                    heights[size] = placeHeights[place];
                    size++;
                }
            }
            for (int block = 0; block < size; block++) {
                linkNexts(code, block);
            }
        }

        /** A jump that is not COME TO makes no leader: its target may lie inside a block. */
        private void markLeaders(Code code, int[] placeHeights) {
            forgetAll(leads);
            leads[0] = true;
            for (int place = 0; place < code.size; place++) {
                if (placeHeights[place] != Check.NO_HEIGHT) {
                    if (isJump(code.ops[place])) {
                        markLeader(code, code.as[place]);
                    }
                    if (isBranch(code.ops[place])) {
                        markLeader(code, place + 1);
                    }
                }
            }
        }

        private void markLeader(Code code, int place) {
            if (code.has(place)) {
                leads[place] = true;
            }
        }

        private int findLast(Code code, int leader) {
            int last = leader;
            while (last + 1 < code.size && !endsBlock(code.ops[last]) && !leads[last + 1]) {
                last++;
            }
            return last;
        }

        private void linkNexts(Code code, int block) {
            int last = lasts[block];
            int op = code.ops[last];
            int on = goesOn(op) ? numberAt(code, last + 1) : NOWHERE;
            int target = isJump(op) ? numberAt(code, code.as[last]) : NOWHERE;
            nexts[block * WAYS] = isJump(op) ? target : on;
            nexts[block * WAYS + 1] = isBranch(op) ? on : NOWHERE;
        }

        private int numberAt(Code code, int place) {
            return code.has(place) ? numbers[place] : NOWHERE;
        }
    }

    /** Which blocks are REACHED and what their slots are KNOWN to be at their starts. */
    private static final class Facts {
        /** A block goes stale when it is reached and when one of its slots opens, no more often. */
        private static final int MOST_TURNS = PLACES * (1 + SLOTS) + 1;

        final boolean[] met = new boolean[PLACES];
        private final boolean[] stale = new boolean[PLACES];
        private final boolean[] sure = new boolean[PLACES * SLOTS];
        private final int[] sureNumbers = new int[PLACES * SLOTS];

        boolean holds(int block, int slot) {
            return sure[block * SLOTS + slot];
        }

        int number(int block, int slot) {
            return sureNumbers[block * SLOTS + slot];
        }

        int countMet(int size) {
            int sum = 0;
            for (int block = 0; block < size; block++) {
                sum += met[block] ? 1 : 0;
            }
            return sum;
        }

        void gather(Code code, Blocks blocks, Graph graph) {
            begin();
            int block = 0;
            for (int turn = 0; turn < MOST_TURNS && block != NOWHERE; turn++) {
                stale[block] = false;
                graph.build(code, blocks, this, block);
                handOn(blocks, graph, block);
                block = firstStale(blocks.size);
            }
        }

        private void begin() {
            forgetAll(met);
            forgetAll(stale);
            forgetAll(sure);
            met[0] = true;
            for (int slot = GIVEN_LOCALS; slot < LOCALS; slot++) {
                sure[slot] = true;
                sureNumbers[slot] = 0;
            }
        }

        private int firstStale(int size) {
            for (int block = 0; block < size; block++) {
                if (stale[block]) {
                    return block;
                }
            }
            return NOWHERE;
        }

        private void handOn(Blocks blocks, Graph graph, int block) {
            int only = graph.onlyWay();
            for (int way = 0; way < Blocks.WAYS; way++) {
                int next = blocks.next(block, way);
                if (next != NOWHERE && (only == Graph.ANY_WAY || only == way)) {
                    if (met[next]) {
                        narrow(next, graph);
                    } else {
                        reachFirst(next, graph);
                    }
                }
            }
        }

        private void reachFirst(int block, Graph graph) {
            met[block] = true;
            stale[block] = true;
            for (int slot = 0; slot < graph.end; slot++) {
                sure[block * SLOTS + slot] = graph.endsConst(slot);
                sureNumbers[block * SLOTS + slot] = graph.endNumber(slot);
            }
        }

        private void narrow(int block, Graph graph) {
            for (int slot = 0; slot < graph.end; slot++) {
                boolean agrees = graph.endsConst(slot) && graph.endNumber(slot) == number(block, slot);
                if (holds(block, slot) && !agrees) {
                    sure[block * SLOTS + slot] = false;
                    stale[block] = true;
                }
            }
        }
    }

    /**
     * The VALUES of one block, built anew for each question so that an object stays small.
     * SAME values are always one value here, so that SAME is a comparison of their numbers.
     */
    private static final class Graph {
        static final int ANY_WAY = -1;
        /** An op of values alone; no instruction that makes a value bears this number. */
        static final int ENTRY = LOAD;
        private static final int NOTHING = -1;
        /** One for each slot at the start, and INC makes two: its CONST and the sum. */
        private static final int MOST_VALUES = SLOTS + 2 * PLACES;

        final int[] ops = new int[MOST_VALUES];
        /** The operand x; the number of a CONST; the slot of an ENTRY. */
        final int[] xs = new int[MOST_VALUES];
        final int[] ys = new int[MOST_VALUES];
        private final boolean[] used = new boolean[MOST_VALUES];
        private int size = 0;
        final int[] slots = new int[SLOTS];
        int end = LOCALS;
        private int lastOp = GOTO;
        private int takenX = NOTHING;
        private int takenY = NOTHING;

        void build(Code code, Blocks blocks, Facts facts, int block) {
            size = 0;
            takenX = NOTHING;
            takenY = NOTHING;
            end = LOCALS + blocks.heights[block];
            for (int slot = 0; slot < end; slot++) {
                boolean sure = facts.holds(block, slot);
                slots[slot] = sure ? makeConst(facts.number(block, slot)) : share(ENTRY, slot, 0);
            }
            for (int place = blocks.leaders[block]; place <= blocks.lasts[block]; place++) {
                lastOp = code.ops[place];
                if (isArithmetic(lastOp)) {
                    doArithmetic(lastOp);
                } else {
                    doMove(lastOp, code.as[place], code.bs[place]);
                }
            }
        }

        boolean hasSlot(int slot) {
            return slot >= 0 && slot < end;
        }

        boolean endsConst(int slot) {
            return hasSlot(slot) && isConst(slots[slot]);
        }

        int endNumber(int slot) {
            return endsConst(slot) ? xs[slots[slot]] : 0;
        }

        /** The one way that the block's last branch can go if its CONSTs settle that. */
        int onlyWay() {
            if (lastOp == IFZERO && isConst(takenX)) {
                return xs[takenX] == 0 ? 0 : 1;
            }
            if (lastOp == IFLESS && isConst(takenX) && isConst(takenY)) {
                return xs[takenX] < xs[takenY] ? 0 : 1;
            }
            return ANY_WAY;
        }

        int countPinned() {
            int sum = 0;
            for (int value = 0; value < size; value++) {
                sum += isPinned(value) ? 1 : 0;
            }
            return sum;
        }

        int countUsed() {
            markUsed();
            int sum = 0;
            for (int value = 0; value < size; value++) {
                sum += used[value] && isArithmetic(ops[value]) ? 1 : 0;
            }
            return sum;
        }

        /** Operands are older than what is made of them, so one way down from the newest meets all. */
        private void markUsed() {
            forgetAll(used);
            for (int slot = 0; slot < end; slot++) {
                used[slots[slot]] = true;
            }
            if (takenX != NOTHING) {
                used[takenX] = true;
            }
            if (takenY != NOTHING) {
                used[takenY] = true;
            }
            for (int value = size - 1; value >= 0; value--) {
                used[value] = used[value] || isPinned(value);
                if (used[value] && isArithmetic(ops[value])) {
                    used[xs[value]] = true;
                    used[ys[value]] = true;
                }
            }
        }

        private boolean isPinned(int value) {
            return ops[value] == DIV && (!isConst(ys[value]) || isNumber(ys[value], 0));
        }

        private boolean isConst(int value) {
            return value != NOTHING && ops[value] == CONST;
        }

        private boolean isNumber(int value, int number) {
            return ops[value] == CONST && xs[value] == number;
        }

        private void push(int value) {
            if (end < SLOTS) {
                slots[end] = value;
                end++;
            }
        }

        private int pop() {
            if (end > LOCALS) {
                end--;
            }
            return slots[end];
        }

        private void doArithmetic(int op) {
            int y = pop();
            push(op == NEG ? makeNeg(y) : make(op, pop(), y));
        }

        private void doMove(int op, int a, int b) {
            switch (op) {
                case CONST:
                    push(makeConst(a));
                    break;
                case LOAD:
                    push(slots[a]);
                    break;
                case STORE:
                    slots[a] = pop();
                    break;
                case INC:
                    slots[a] = make(ADD, slots[a], makeConst(b));
                    break;
                case DUP:
                    int twice = pop();
                    push(twice);
                    push(twice);
                    break;
                case SWAP:
                    int upper = pop();
                    int lower = pop();
                    push(upper);
                    push(lower);
                    break;
                case POP:
                    pop();
                    break;
                case IFLESS:
                    takenY = pop();
                    takenX = pop();
                    break;
                case IFZERO:
                case RETURN:
                    takenX = pop();
                    break;
                default:
                    break;
            }
        }

        private int makeConst(int number) {
            return share(CONST, number, 0);
        }

        private int makeNeg(int x) {
            if (isConst(x)) {
                return makeConst(calculate(NEG, xs[x], 0));
            }
            // NEG has x for its y too, so that all that looks at operands may look at both.
            return ops[x] == NEG ? xs[x] : share(NEG, x, x);
        }

        private int make(int op, int x, int y) {
            if (isConst(x) && isConst(y) && !(op == DIV && xs[y] == 0)) {
                return makeConst(calculate(op, xs[x], xs[y]));
            }
            if (EITHER_WAY[op] == 1 && isConst(x)) {
                return simplify(op, y, x);
            }
            return simplify(op, x, y);
        }

        private int simplify(int op, int x, int y) {
            if (isNumber(y, 0) && op != DIV) {
                return op == MUL || op == AND ? y : x;
            }
            if (isNumber(y, 1) && (op == MUL || op == DIV)) {
                return x;
            }
            if (x == y && (op == SUB || op == XOR)) {
                return share(CONST, 0, 0);
            }
            if (x == y && (op == AND || op == OR)) {
                return x;
            }
            return share(op, x, y);
        }

        private int share(int op, int x, int y) {
            boolean eitherWay = EITHER_WAY[op] == 1;
            for (int value = 0; value < size; value++) {
                boolean straight = xs[value] == x && ys[value] == y;
                boolean crossed = eitherWay && xs[value] == y && ys[value] == x;
                if (ops[value] == op && (straight || crossed)) {
                    return value;
                }
            }
            if (size >= MOST_VALUES) {
                return 0;
            }
            ops[size] = op;
            xs[size] = x;
            ys[size] = y;
            size++;
            return size - 1;
        }
    }

    /** TEXTs. A shared graph may stand for millions of characters, so writing stops at the limit. */
    private static final class Writer {
        private static final int MOST_LETTERS = 60;
        private static final int DEEPEST = PLACES;
        private static final long HIGHEST_UNIT = 1000000000L;
        private static final String SIGNS = "+-*/&|^<>";

        final char[] letters = new char[MOST_LETTERS];
        int length = 0;

        void writeOut(Graph graph, int value) {
            length = 0;
            writeValue(graph, value, 0);
        }

        /** Each level is an instruction of the block, so the depth stays below the code's limit. */
        private void writeValue(Graph graph, int value, int depth) {
            if (depth > DEEPEST || length >= MOST_LETTERS) {
                return;
            }
            int op = graph.ops[value];
            if (op == CONST) {
                writeNumber(graph.xs[value]);
            } else if (op == Graph.ENTRY) {
                add('e');
                writeNumber(graph.xs[value]);
            } else if (op == NEG) {
                add('(');
                add('-');
                writeValue(graph, graph.xs[value], depth + 1);
                add(')');
            } else {
                add('(');
                writeValue(graph, graph.xs[value], depth + 1);
                add(signOf(op));
                writeValue(graph, graph.ys[value], depth + 1);
                add(')');
            }
        }

        private static char signOf(int op) {
            return op >= ADD && op <= SHR ? SIGNS.charAt(op - ADD) : ' ';
        }

        /** In long, since the least int has no positive of its own. */
        private void writeNumber(int number) {
            long size = Math.abs((long) number);
            if (number < 0) {
                add('-');
            }
            for (long unit = HIGHEST_UNIT; unit > 0; unit /= 10) {
                if (size >= unit || unit == 1) {
                    add((char) ('0' + size / unit % 10));
                }
            }
        }

        private void add(char letter) {
            if (length < MOST_LETTERS) {
                letters[length] = letter;
                length++;
            }
        }
    }

    /** Runs compiled code as it was written: the graphs change no answer of it. */
    private static final class Machine {
        private static final int ENDED = -1;

        private final int[] locals = new int[LOCALS];
        private final int[] cells = new int[CELLS];
        private int top = 0;
        private long answer = NONE;
        int entered = 0;

        void begin(int a, int b, int c, int d) {
            Arrays.fill(locals, 0);
            locals[0] = a;
            locals[1] = b;
            locals[2] = c;
            locals[3] = d;
            top = 0;
            entered = 0;
        }

        long enterBlocks(Code code, Blocks blocks, int fuel) {
            int block = 0;
            while (entered < fuel && blocks.has(block)) {
                entered++;
                int way = walk(code, blocks, block);
                if (way == ENDED) {
                    return answer;
                }
                block = blocks.next(block, way);
            }
            return TIRED;
        }

        /** Which follower comes next, or ENDED with the answer set. */
        private int walk(Code code, Blocks blocks, int block) {
            int way = 0;
            for (int place = blocks.leaders[block]; place <= blocks.lasts[block]; place++) {
                int op = code.ops[place];
                if (op == DIV && top > 0 && cells[top - 1] == 0) {
                    answer = TRAP;
                    return ENDED;
                }
                if (isArithmetic(op)) {
                    doArithmetic(op);
                } else if (endsBlock(op)) {
                    way = leave(op);
                } else {
                    doMove(op, code.as[place], code.bs[place]);
                }
            }
            return way;
        }

        private int leave(int op) {
            if (op == IFZERO) {
                return pop() == 0 ? 0 : 1;
            }
            if (op == IFLESS) {
                int y = pop();
                return pop() < y ? 0 : 1;
            }
            if (op == RETURN) {
                answer = pop();
                return ENDED;
            }
            return 0;
        }

        private void doArithmetic(int op) {
            int y = pop();
            push(op == NEG ? calculate(op, y, 0) : calculate(op, pop(), y));
        }

        private void doMove(int op, int a, int b) {
            switch (op) {
                case CONST:
                    push(a);
                    break;
                case LOAD:
                    push(locals[a]);
                    break;
                case STORE:
                    locals[a] = pop();
                    break;
                case INC:
                    locals[a] += b;
                    break;
                case DUP:
                    int twice = pop();
                    push(twice);
                    push(twice);
                    break;
                case SWAP:
                    int upper = pop();
                    int lower = pop();
                    push(upper);
                    push(lower);
                    break;
                case POP:
                    pop();
                    break;
                default:
                    break;
            }
        }

        private void push(int number) {
            if (top < CELLS) {
                cells[top] = number;
                top++;
            }
        }

        private int pop() {
            if (top > 0) {
                top--;
            }
            return cells[top];
        }
    }
}
