import java.util.ArrayList;
import java.util.Arrays;
import java.util.HashMap;
import java.util.LinkedHashSet;
import java.util.List;
import java.util.Map;
import java.util.Random;
import java.util.Set;
import java.util.TreeMap;

/**
 * Runs of random calls, from fixed seeds, on the program and on a second and slower reading of the document.
 * The second reading runs code by its graphs where the program runs the instructions, so the two test each other.
 */
public final class RandomCodeTest {
    static final long NONE = 1000000000000L, TRAP = 1000000000001L, TIRED = 1000000000002L;
    static final int MOST_CALLS = 512;
    static final int[] TAKES = {0, 0, 1, 2, 2, 2, 2, 2, 2, 2, 2, 2, 1, 1, 2, 1, 1, 2, 0, 1, 0};
    static final int[] PUTS = {1, 1, 0, 1, 1, 1, 1, 1, 1, 1, 1, 1, 1, 2, 2, 0, 0, 0, 0, 0, 0};

    record Ins(int op, int a, int b) {
        boolean jumps() {
            return op >= 16 && op <= 18;
        }

        boolean forks() {
            return op == 16 || op == 17;
        }
    }

    /** A value: kind 'c' with its number, 'e' with its slot, or 'o' with op and operands (NEG: y is null). */
    static final class Value {
        final char kind;
        final int number;
        final Value x;
        final Value y;

        Value(char kind, int number, Value x, Value y) {
            this.kind = kind;
            this.number = number;
            this.x = x;
            this.y = y;
        }

        boolean isConst() {
            return kind == 'c';
        }

        boolean is(int n) {
            return isConst() && number == n;
        }

        static boolean same(Value p, Value q) {
            if (p == q) {
                return true;
            }
            if (p == null || q == null || p.kind != q.kind || p.number != q.number) {
                return false;
            }
            if (p.kind != 'o') {
                return true;
            }
            boolean either = List.of(3, 5, 7, 8, 9).contains(p.number);
            return same(p.x, q.x) && same(p.y, q.y) || either && same(p.x, q.y) && same(p.y, q.x);
        }

        void write(StringBuilder out) {
            if (out.length() >= 60) {
                return;
            }
            if (kind == 'c') {
                out.append(number);
            } else if (kind == 'e') {
                out.append('e').append(number);
            } else if (number == 12) {
                out.append("(-");
                x.write(out);
                out.append(')');
            } else {
                out.append('(');
                x.write(out);
                out.append("+-*/&|^<>".charAt(number - 3));
                y.write(out);
                out.append(')');
            }
        }
    }

    static int calculate(int op, int x, int y) {
        return switch (op) {
            case 3 -> x + y;
            case 4 -> x - y;
            case 5 -> x * y;
            case 6 -> (int) ((long) x / (long) y);
            case 7 -> x & y;
            case 8 -> x | y;
            case 9 -> x ^ y;
            case 10 -> x << (y & 31);
            case 11 -> x >> (y & 31);
            default -> -x;
        };
    }

    /** The values of one block with what is known at its start (null: open). */
    static final class Values {
        final List<Value> made = new ArrayList<>();
        final Value[] locals = new Value[8];
        final List<Value> stack = new ArrayList<>();
        final List<Value> taken = new ArrayList<>();
        int asked = 0;

        Values(List<Ins> block, Integer[] known) {
            for (int slot = 0; slot < known.length; slot++) {
                Value start = known[slot] != null ? constant(known[slot]) : new Value('e', slot, null, null);
                if (slot < 8) {
                    locals[slot] = start;
                } else {
                    stack.add(start);
                }
            }
            for (Ins ins : block) {
                follow(ins);
            }
        }

        static Value constant(int n) {
            return new Value('c', n, null, null);
        }

        Value take() {
            return stack.remove(stack.size() - 1);
        }

        void follow(Ins ins) {
            int op = ins.op();
            if (op >= 3 && op <= 12 || op == 20) {
                asked++;
            }
            if (op == 0) {
                stack.add(constant(ins.a()));
            } else if (op == 1) {
                stack.add(locals[ins.a()]);
            } else if (op == 2) {
                locals[ins.a()] = take();
            } else if (op <= 11) {
                Value y = take();
                Value x = take();
                stack.add(make(op, x, y));
            } else if (op == 12) {
                stack.add(make(12, take(), null));
            } else if (op == 13) {
                stack.add(stack.get(stack.size() - 1));
            } else if (op == 14) {
                Value y = take();
                stack.add(stack.size() - 1, y);
            } else if (op == 15) {
                take();
            } else if (op == 16 || op == 19) {
                taken.add(take());
            } else if (op == 17) {
                Value y = take();
                taken.add(take());
                taken.add(y);
            } else if (op == 20) {
                locals[ins.a()] = make(3, locals[ins.a()], constant(ins.b()));
            }
        }

        Value make(int op, Value x, Value y) {
            if (op == 12) {
                if (x.isConst()) {
                    return constant(-x.number);
                }
                return x.kind == 'o' && x.number == 12 ? x.x : older(new Value('o', 12, x, null));
            }
            if (x.isConst() && y.isConst() && !(op == 6 && y.number == 0)) {
                return constant(calculate(op, x.number, y.number));
            }
            if (List.of(3, 5, 7, 8, 9).contains(op) && x.isConst()) {
                Value other = x;
                x = y;
                y = other;
            }
            if (y.is(0) && List.of(3, 4, 8, 9, 10, 11).contains(op)) {
                return x;
            }
            if (y.is(0) && (op == 5 || op == 7)) {
                return constant(0);
            }
            if (y.is(1) && (op == 5 || op == 6)) {
                return x;
            }
            if (Value.same(x, y) && (op == 4 || op == 9)) {
                return constant(0);
            }
            if (Value.same(x, y) && (op == 7 || op == 8)) {
                return x;
            }
            return older(new Value('o', op, x, y));
        }

        Value older(Value fresh) {
            for (Value value : made) {
                if (Value.same(value, fresh)) {
                    return value;
                }
            }
            made.add(fresh);
            return fresh;
        }

        Value atEnd(int slot) {
            if (slot < 0 || slot >= 8 + stack.size()) {
                return null;
            }
            return slot < 8 ? locals[slot] : stack.get(slot - 8);
        }

        List<Value> pinned() {
            return made.stream().filter(v -> v.number == 6 && !(v.y.isConst() && v.y.number != 0)).toList();
        }

        int used() {
            Set<Value> all = new LinkedHashSet<>();
            List<Value> open = new ArrayList<>(Arrays.asList(locals));
            open.addAll(stack);
            open.addAll(taken);
            open.addAll(pinned());
            while (!open.isEmpty()) {
                Value value = open.remove(open.size() - 1);
                if (value.kind == 'o' && all.add(value)) {
                    open.add(value.x);
                    if (value.y != null) {
                        open.add(value.y);
                    }
                }
            }
            return all.size();
        }

        boolean[] ways(Ins last) {
            boolean[] ways = {true, true};
            if (last.forks() && taken.stream().allMatch(Value::isConst)) {
                boolean goes = last.op() == 16 ? taken.get(0).number == 0 : taken.get(0).number < taken.get(1).number;
                ways[goes ? 1 : 0] = false;
            }
            return ways;
        }
    }

    /** What a compile leaves behind; it never changes afterwards. */
    static final class Compiled {
        final List<List<Ins>> blocks = new ArrayList<>();
        final List<Integer> leaders = new ArrayList<>();
        final List<Integer> heights = new ArrayList<>();
        final List<int[]> followers = new ArrayList<>();
        final List<Values> values = new ArrayList<>();
        final List<Integer[]> known = new ArrayList<>();
        boolean[] reached;

        Compiled(List<Ins> code, Map<Integer, Integer> placeHeights, Random order) {
            Set<Integer> leads = new LinkedHashSet<>(List.of(0));
            for (int place : placeHeights.keySet()) {
                Ins ins = code.get(place);
                if (ins.jumps()) {
                    leads.add(ins.a());
                }
                if (ins.forks()) {
                    leads.add(place + 1);
                }
            }
            leads.stream().sorted().forEach(leaders::add);
            for (int leader : leaders) {
                heights.add(placeHeights.get(leader));
                int end = leader + 1;
                while (!leads.contains(end) && !(code.get(end - 1).op() >= 16 && code.get(end - 1).op() <= 19)) {
                    end++;
                }
                blocks.add(List.copyOf(code.subList(leader, end)));
                Ins last = code.get(end - 1);
                if (last.op() == 19) {
                    followers.add(new int[0]);
                } else if (last.op() == 18) {
                    followers.add(new int[] {leaders.indexOf(last.a())});
                } else if (last.forks()) {
                    followers.add(new int[] {leaders.indexOf(last.a()), leaders.indexOf(end)});
                } else {
                    followers.add(new int[] {leaders.indexOf(end)});
                }
            }
            follow(order);
        }

        /** All hand-overs ever made are kept, and blocks are taken in any order. */
        void follow(Random order) {
            int size = blocks.size();
            reached = new boolean[size];
            reached[0] = true;
            List<Set<List<Integer>>> handed = new ArrayList<>();
            for (int i = 0; i < size; i++) {
                handed.add(new LinkedHashSet<>());
            }
            handed.get(0).add(Arrays.asList(null, null, null, null, 0, 0, 0, 0));
            int quiet = 0;
            while (quiet < 40 * size) {
                int block = order.nextInt(size);
                quiet++;
                if (reached[block]) {
                    Values now = new Values(blocks.get(block), meet(block, handed));
                    List<Integer> hands = new ArrayList<>();
                    for (int slot = 0; now.atEnd(slot) != null; slot++) {
                        hands.add(now.atEnd(slot).isConst() ? now.atEnd(slot).number : null);
                    }
                    boolean[] ways = now.ways(last(block));
                    for (int way = 0; way < followers.get(block).length; way++) {
                        int next = followers.get(block)[way];
                        if (ways[way] && (handed.get(next).add(hands) | !reached[next])) {
                            reached[next] = true;
                            quiet = 0;
                        }
                    }
                }
            }
            for (int block = 0; block < size; block++) {
                known.add(meet(block, handed));
                values.add(new Values(blocks.get(block), known.get(block)));
            }
        }

        Ins last(int block) {
            return blocks.get(block).get(blocks.get(block).size() - 1);
        }

        Integer[] meet(int block, List<Set<List<Integer>>> handed) {
            Integer[] slots = new Integer[8 + heights.get(block)];
            for (int slot = 0; slot < slots.length; slot++) {
                Set<Integer> all = new LinkedHashSet<>();
                for (List<Integer> hands : handed.get(block)) {
                    all.add(hands.get(slot));
                }
                slots[slot] = all.size() == 1 ? all.iterator().next() : null;
            }
            return slots;
        }
    }

    /** The document's face once more. */
    static final class Reference {
        final Random order;
        final List<Ins> code = new ArrayList<>();
        Compiled compiled = null;
        int bad = -1;
        int entered = 0;

        Reference(Random order) {
            this.order = order;
        }

        static boolean allowed(int op, int a) {
            return switch (op) {
                case 1, 2, 20 -> 0 <= a && a <= 7;
                case 16, 17, 18 -> 0 <= a && a <= 23;
                default -> 0 <= op && op <= 20;
            };
        }

        long emit(int op, int a, int b) {
            if (code.size() == 24 || !allowed(op, a)) {
                return -1;
            }
            code.add(new Ins(op, a, b));
            return code.size() - 1;
        }

        long patch(int i, int op, int a, int b) {
            if (i < 0 || i >= code.size() || !allowed(op, a)) {
                return -1;
            }
            code.set(i, new Ins(op, a, b));
            return 0;
        }

        long clear() {
            int size = code.size();
            code.clear();
            return size;
        }

        long compile() {
            Map<Integer, Integer> heights = new TreeMap<>();
            bad = check(heights);
            if (bad >= 0) {
                return -2;
            }
            compiled = new Compiled(List.copyOf(code), heights, order);
            return compiled.blocks.size();
        }

        int check(Map<Integer, Integer> heights) {
            if (code.isEmpty()) {
                return 0;
            }
            heights.put(0, 0);
            Set<Integer> looked = new LinkedHashSet<>();
            while (looked.size() < heights.size()) {
                int place = heights.keySet().stream().filter(p -> !looked.contains(p)).findFirst().get();
                looked.add(place);
                Ins ins = code.get(place);
                int after = heights.get(place) - TAKES[ins.op()] + PUTS[ins.op()];
                if (heights.get(place) < TAKES[ins.op()] || after > 4) {
                    return place;
                }
                List<Integer> to = new ArrayList<>();
                if (ins.jumps()) {
                    to.add(ins.a());
                }
                if (ins.op() != 18 && ins.op() != 19) {
                    to.add(place + 1);
                }
                for (int follower : to) {
                    if (follower >= code.size()) {
                        return place;
                    }
                    if (heights.putIfAbsent(follower, after) != null && heights.get(follower) != after) {
                        return follower;
                    }
                }
            }
            return -1;
        }

        boolean has(int block) {
            return compiled != null && block >= 0 && block < compiled.blocks.size();
        }

        long leader(int block) {
            return has(block) ? compiled.leaders.get(block) : -1;
        }

        long height(int block) {
            return has(block) ? compiled.heights.get(block) : -1;
        }

        long follower(int block, int i) {
            return has(block) && i >= 0 && i < compiled.followers.get(block).length ? compiled.followers.get(block)[i] : -1;
        }

        long reached(int block) {
            return has(block) && compiled.reached[block] ? 1 : 0;
        }

        long known(int block, int slot) {
            if (!has(block) || slot < 0 || slot >= compiled.known.get(block).length) {
                return NONE;
            }
            Integer number = compiled.known.get(block)[slot];
            return number == null ? NONE : number;
        }

        long nodes(int block) {
            return has(block) ? compiled.values.get(block).used() : -1;
        }

        long pinned(int block) {
            return has(block) ? compiled.values.get(block).pinned().size() : -1;
        }

        long saved(int block) {
            return has(block) ? compiled.values.get(block).asked - nodes(block) : -1;
        }

        long outcome(int block, int slot) {
            Value value = has(block) ? compiled.values.get(block).atEnd(slot) : null;
            return value != null && value.isConst() ? value.number : NONE;
        }

        long text(int block, int slot, int i) {
            Value value = has(block) ? compiled.values.get(block).atEnd(slot) : null;
            if (value == null) {
                return -1;
            }
            StringBuilder out = new StringBuilder();
            value.write(out);
            int length = Math.min(60, out.length());
            return i == -1 ? length : i >= 0 && i < length ? out.charAt(i) : -1;
        }

        long run(int a, int b, int c, int d, int fuel) {
            if (compiled == null) {
                return NONE;
            }
            int limit = fuel < 1 ? 1 : fuel > 500 ? 500 : fuel;
            int[] slots = {a, b, c, d, 0, 0, 0, 0};
            int block = 0;
            for (entered = 1; entered <= limit; entered++) {
                Values values = compiled.values.get(block);
                Ins last = compiled.last(block);
                sound(block, slots);
                Map<Value, Integer> done = new HashMap<>();
                for (Value value : values.made) {
                    if (value.number == 6 && evaluate(value.y, slots, done) == 0) {
                        return TRAP;
                    }
                    evaluate(value, slots, done);
                }
                int[] taken = new int[values.taken.size()];
                for (int i = 0; i < taken.length; i++) {
                    taken[i] = evaluate(values.taken.get(i), slots, done);
                }
                if (last.op() == 19) {
                    return taken[0];
                }
                int[] next = new int[8 + values.stack.size()];
                for (int slot = 0; slot < next.length; slot++) {
                    next[slot] = evaluate(values.atEnd(slot), slots, done);
                }
                boolean goes = last.op() == 16 ? taken[0] == 0 : last.op() != 17 || taken[0] < taken[1];
                block = compiled.followers.get(block)[goes ? 0 : 1];
                slots = next;
            }
            entered = limit;
            return TIRED;
        }

        /** What is known of a block must be so whenever it is entered. */
        void sound(int block, int[] slots) {
            due("an entered block is reached", reached(block), 1);
            for (int slot = 0; slot < slots.length; slot++) {
                if (known(block, slot) != NONE) {
                    due("what is known holds", known(block, slot), slots[slot]);
                }
            }
        }

        static int evaluate(Value value, int[] slots, Map<Value, Integer> done) {
            if (value.kind != 'o') {
                return value.kind == 'c' ? value.number : slots[value.number];
            }
            Integer old = done.get(value);
            if (old == null) {
                int x = evaluate(value.x, slots, done);
                int y = value.y == null ? 0 : evaluate(value.y, slots, done);
                old = calculate(value.number, x, y);
                done.put(value, old);
            }
            return old;
        }

        long count(int what) {
            return switch (what) {
                case 0 -> code.size();
                case 1 -> compiled == null ? 0 : compiled.blocks.size();
                case 2 -> {
                    int sum = 0;
                    for (int i = 0; compiled != null && i < compiled.blocks.size(); i++) {
                        sum += compiled.reached[i] ? 1 : 0;
                    }
                    yield sum;
                }
                case 3 -> entered;
                default -> -1;
            };
        }
    }

    static int wrong = 0;
    static int asked = 0;
    static int good = 0;
    static int partly = 0;
    static String where = "";

    static void due(String call, long got, long want) {
        asked++;
        if (got != want) {
            wrong++;
            if (wrong <= 20) {
                System.out.println(where + ": " + call + " answered " + got + ", due is " + want);
            }
        }
    }

    /** One object with its reference, fed with calls until the document's limit. */
    static final class Pair {
        static final int[] NUMBERS = {0, 0, 0, 1, 1, -1, 2, 3, 5, 7, 31, 32, 33, -8, 1000, Integer.MIN_VALUE, Integer.MAX_VALUE};

        final Random random;
        final GraphCompiler g = new GraphCompiler();
        final Reference r;
        int calls = 0;

        Pair(long seed) {
            random = new Random(seed);
            r = new Reference(new Random(seed + 1));
        }

        boolean more() {
            return calls < MOST_CALLS;
        }

        int number() {
            return NUMBERS[random.nextInt(NUMBERS.length)];
        }

        /** Mostly what is in range, now and then one beside it. */
        int near(int size) {
            return random.nextInt(12) == 0 ? random.nextInt(3) == 0 ? number() : size : random.nextInt(size + 1) - (random.nextInt(9) == 0 ? 1 : 0);
        }

        void emit(int op, int a, int b) {
            if (more()) {
                calls++;
                due("emit(" + op + ", " + a + ", " + b + ")", g.emit(op, a, b), r.emit(op, a, b));
            }
        }

        void patch(int i, int op, int a, int b) {
            if (more()) {
                calls++;
                due("patch(" + i + ", " + op + ", " + a + ", " + b + ")", g.patch(i, op, a, b), r.patch(i, op, a, b));
            }
        }

        void clear() {
            if (more()) {
                calls++;
                due("clear()", g.clear(), r.clear());
            }
        }

        void compile() {
            if (more()) {
                calls++;
                long want = r.compile();
                good += want > 0 ? 1 : 0;
                partly += want > 0 && r.count(2) < want ? 1 : 0;
                due("compile() of " + r.code, g.compile(), want);
            }
            if (more()) {
                calls++;
                due("badAt()", g.badAt(), r.bad);
            }
        }

        /** Heights are followed while writing, so that most jumps find a fitting place. */
        void writeFitting() {
            int size = 2 + random.nextInt(23);
            int locals = 1 + random.nextInt(8);
            int jumpiness = random.nextInt(30);
            int[] heights = new int[size];
            int[] after = new int[size];
            int[] ops = new int[size];
            int height = 0;
            for (int i = 0; i < size; i++) {
                heights[i] = height;
                ops[i] = i == size - 1 ? (height > 0 ? 19 : 18) : fittingOp(height, jumpiness);
                after[i] = height - TAKES[ops[i]] + PUTS[ops[i]];
                height = ops[i] == 18 || ops[i] == 19 ? random.nextInt(3) : after[i];
            }
            for (int i = 0; i < size; i++) {
                int a = ops[i] == 0 ? number() : ops[i] >= 16 && ops[i] <= 18 ? target(heights, after[i]) : random.nextInt(locals);
                if (random.nextInt(2) == 0 && (ops[i] == 1 || ops[i] == 2 || ops[i] == 20)) {
                    a = 4 + random.nextInt(4);
                }
                emit(ops[i], a, number());
            }
        }

        int fittingOp(int height, int jumpiness) {
            for (int tries = 0; tries < 100; tries++) {
                int op = random.nextInt(100) < jumpiness ? 16 + random.nextInt(4) : random.nextInt(3) == 0 ? random.nextInt(3) : random.nextInt(21);
                if (op >= 16 && op <= 19 && random.nextInt(3) == 0) {
                    continue;
                }
                if (TAKES[op] <= height && height - TAKES[op] + PUTS[op] <= 4) {
                    return op;
                }
            }
            return 20;
        }

        int target(int[] heights, int height) {
            for (int tries = 0; tries < 60; tries++) {
                int place = random.nextInt(heights.length);
                if (heights[place] == height) {
                    return place;
                }
            }
            return random.nextInt(24);
        }

        void writeAny() {
            int size = random.nextInt(26);
            for (int i = 0; i < size; i++) {
                emit(near(20), near(random.nextInt(2) == 0 ? 8 : 24), number());
            }
        }

        void mend() {
            for (int i = random.nextInt(4); i >= 0; i--) {
                patch(near(r.code.size()), near(20), near(8), number());
            }
        }

        void askOfBlock(int block) {
            calls++;
            int slot = near(10);
            String of = "(" + block + ")";
            switch (random.nextInt(10)) {
                case 0 -> due("leader" + of, g.leader(block), r.leader(block));
                case 1 -> due("height" + of, g.height(block), r.height(block));
                case 2 -> {
                    int i = near(2);
                    due("follower(" + block + ", " + i + ")", g.follower(block, i), r.follower(block, i));
                }
                case 3 -> due("reached" + of, g.reached(block) ? 1 : 0, r.reached(block));
                case 4 -> due("known(" + block + ", " + slot + ")", g.known(block, slot), r.known(block, slot));
                case 5 -> due("nodes" + of, g.nodes(block), r.nodes(block));
                case 6 -> due("pinned" + of, g.pinned(block), r.pinned(block));
                case 7 -> due("saved" + of, g.saved(block), r.saved(block));
                case 8 -> due("outcome(" + block + ", " + slot + ")", g.outcome(block, slot), r.outcome(block, slot));
                default -> {
                    int i = random.nextInt(4) == 0 ? -1 : near(random.nextBoolean() ? 5 : 60);
                    due("text(" + block + ", " + slot + ", " + i + ")", g.text(block, slot, i), r.text(block, slot, i));
                }
            }
        }

        void askOfRuns() {
            calls++;
            if (random.nextInt(3) == 0) {
                int what = near(3);
                due("count(" + what + ")", g.count(what), r.count(what));
                return;
            }
            int[] in = {number(), number(), number(), random.nextInt()};
            int fuel = random.nextInt(4) == 0 ? number() : random.nextInt(40);
            String call = "run(" + in[0] + ", " + in[1] + ", " + in[2] + ", " + in[3] + ", " + fuel + ")";
            due(call, g.run(in[0], in[1], in[2], in[3], fuel), r.run(in[0], in[1], in[2], in[3], fuel));
        }

        /** Now and then any int at all, else one in range or beside it. */
        int any(int size, int wildness) {
            return random.nextInt(wildness) == 0 ? random.nextBoolean() ? random.nextInt() : number() : near(size);
        }

        void anyCall(int wildness) {
            int kind = random.nextInt(24);
            if (kind == 0) {
                emit(any(20, wildness), any(random.nextBoolean() ? 7 : 23, wildness), any(9, wildness));
            } else if (kind < 4) {
                patchAnything(wildness);
            } else if (kind == 4 && random.nextInt(8) == 0) {
                clear();
                writeFitting();
            } else if (kind < 8) {
                compile();
            } else if (kind == 8) {
                calls++;
                due("badAt()", g.badAt(), r.bad);
            } else if (kind == 9) {
                calls++;
                int what = any(3, wildness);
                due("count(" + what + ")", g.count(what), r.count(what));
            } else if (kind < 13) {
                askOfRuns();
            } else {
                askOfBlock(any((int) Math.max(1, r.count(1)), wildness));
            }
        }

        /** Often the instruction that is there with another operand, so that the code stays good. */
        void patchAnything(int wildness) {
            int i = any(Math.max(1, r.code.size() - 1), wildness);
            int op = any(20, wildness);
            if (random.nextInt(4) > 0 && i >= 0 && i < r.code.size()) {
                op = r.code.get(i).op();
            }
            patch(i, op, any(op >= 16 && op <= 18 ? 23 : 7, wildness), any(9, wildness));
        }

        void ask(int times) {
            for (int i = 0; i < times && more(); i++) {
                if (random.nextInt(4) == 0) {
                    askOfRuns();
                } else {
                    askOfBlock(near((int) Math.max(1, r.count(1))));
                }
            }
        }

        /** Every answer about every block, without regard to chance, as far as the calls last. */
        void askAll() {
            for (int block = 0; block < r.count(1); block++) {
                for (int slot = 0; slot < 12 && calls + 6 < MOST_CALLS; slot++) {
                    calls += 6;
                    due("known(" + block + ", " + slot + ") of " + r.code, g.known(block, slot), r.known(block, slot));
                    due("outcome(" + block + ", " + slot + ") of " + r.code, g.outcome(block, slot), r.outcome(block, slot));
                    due("text(" + block + ", " + slot + ") of " + r.code, g.text(block, slot, -1), r.text(block, slot, -1));
                    due("nodes(" + block + ") of " + r.code, g.nodes(block), r.nodes(block));
                    due("reached(" + block + ") of " + r.code, g.reached(block) ? 1 : 0, r.reached(block));
                    due("saved(" + block + ") of " + r.code, g.saved(block), r.saved(block));
                }
            }
        }
    }

    static void mixed(long seed) {
        Pair pair = new Pair(seed);
        pair.ask(pair.random.nextInt(10));
        while (pair.more()) {
            if (pair.random.nextInt(4) > 0) {
                pair.clear();
                if (pair.random.nextInt(6) > 0) {
                    pair.writeFitting();
                } else {
                    pair.writeAny();
                }
            } else {
                pair.mend();
            }
            if (pair.random.nextInt(8) > 0) {
                pair.compile();
            }
            pair.ask(pair.random.nextInt(80));
        }
    }

    /** No call waits for another: each is drawn anew, and so is each argument. */
    static void anyOrder(long seed) {
        Pair pair = new Pair(seed);
        int wildness = 2 + pair.random.nextInt(20);
        if (pair.random.nextInt(4) > 0) {
            pair.writeFitting();
        }
        while (pair.more()) {
            pair.anyCall(wildness);
        }
    }

    static void whole(long seed) {
        Pair pair = new Pair(seed);
        pair.writeFitting();
        pair.compile();
        pair.askAll();
        for (int i = 0; i < 10 && pair.more(); i++) {
            pair.askOfRuns();
        }
    }

    public static void main(String[] args) {
        int rounds = args.length > 0 ? Integer.parseInt(args[0]) : 600;
        for (int seed = 0; seed < rounds; seed++) {
            where = "mixed calls of seed " + seed;
            mixed(seed);
            where = "calls in any order of seed " + seed;
            anyOrder(seed + 2000000);
            where = "whole answers of seed " + seed;
            whole(seed + 1000000);
        }
        // Tests over code that is never good, or always reached, would show little.
        due("enough good code", good > rounds && partly > rounds / 10 ? 1 : 0, 1);
        System.out.println(wrong == 0 ? asked + " answers are as due, of " + good + " good codes, " + partly + " of them reached in part"
            : wrong + " answers of " + asked + " are not as due");
        if (wrong != 0) {
            System.exit(1);
        }
    }
}
