/** For each promise of the document its ordinary inputs, its edges and wrong inputs, with answers worked out by hand. */
public final class PromiseTest {
    static final int CONST = 0, LOAD = 1, STORE = 2, ADD = 3, SUB = 4, MUL = 5, DIV = 6, AND = 7, OR = 8, XOR = 9;
    static final int SHL = 10, SHR = 11, NEG = 12, DUP = 13, SWAP = 14, POP = 15, IFZERO = 16, IFLESS = 17, GOTO = 18;
    static final int RETURN = 19, INC = 20;
    static final int MIN = Integer.MIN_VALUE, MAX = Integer.MAX_VALUE;
    static final long NONE = 1000000000000L, TRAP = 1000000000001L, TIRED = 1000000000002L;

    static int wrong = 0;
    static int asked = 0;

    static void due(String what, long got, long want) {
        asked++;
        if (got != want) {
            wrong++;
            System.out.println(what + " answered " + got + ", due is " + want);
        }
    }

    static void due(String what, String got, String want) {
        asked++;
        if (!got.equals(want)) {
            wrong++;
            System.out.println(what + " answered " + got + ", due is " + want);
        }
    }

    static int[] ins(int... parts) {
        return parts;
    }

    /** A new object with the instructions emitted, each given with the operands it names. */
    static GraphCompiler written(int[]... code) {
        GraphCompiler g = new GraphCompiler();
        write(g, code);
        return g;
    }

    static void write(GraphCompiler g, int[]... code) {
        for (int i = 0; i < code.length; i++) {
            int a = code[i].length > 1 ? code[i][1] : 0;
            int b = code[i].length > 2 ? code[i][2] : 0;
            due("emit " + i, g.emit(code[i][0], a, b), i);
        }
    }

    static GraphCompiler compiled(int blocks, int[]... code) {
        GraphCompiler g = written(code);
        due("compile", g.compile(), blocks);
        due("badAt after a good compile", g.badAt(), -1);
        return g;
    }

    static void bad(String what, int place, int[]... code) {
        GraphCompiler g = written(code);
        due(what + ": compile", g.compile(), -2);
        due(what + ": badAt", g.badAt(), place);
        due(what + ": count(1)", g.count(1), 0);
    }

    static String textOf(GraphCompiler g, int block, int slot) {
        StringBuilder letters = new StringBuilder();
        int length = g.text(block, slot, -1);
        for (int i = 0; i < length; i++) {
            letters.append((char) g.text(block, slot, i));
        }
        due("text past its end", g.text(block, slot, length), -1);
        due("text far before its start", g.text(block, slot, -2), -1);
        return letters.toString();
    }

    /** The TEXT that one op makes of the two things that the given instructions put. */
    static String made(int op, int[] first, int[] second) {
        GraphCompiler g = compiled(1, first, second, ins(op), ins(STORE, 7), ins(CONST, 0), ins(RETURN));
        return textOf(g, 0, 7);
    }

    static void newObject() {
        GraphCompiler g = new GraphCompiler();
        due("new: badAt", g.badAt(), -1);
        for (int what = 0; what <= 3; what++) {
            due("new: count " + what, g.count(what), 0);
        }
        due("new: run", g.run(1, 2, 3, 4, 5), NONE);
        due("new: count(3) after a run of nothing", g.count(3), 0);
        due("new: leader", g.leader(0), -1);
        due("new: height", g.height(0), -1);
        due("new: follower", g.follower(0, 0), -1);
        due("new: reached", g.reached(0) ? 1 : 0, 0);
        due("new: known", g.known(0, 4), NONE);
        due("new: nodes", g.nodes(0), -1);
        due("new: pinned", g.pinned(0), -1);
        due("new: saved", g.saved(0), -1);
        due("new: outcome", g.outcome(0, 4), NONE);
        due("new: text", g.text(0, 4, -1), -1);
        due("new: clear", g.clear(), 0);
        due("new: patch", g.patch(0, 0, 0, 0), -1);
        due("new: compile", g.compile(), -2);
    }

    static void emit() {
        GraphCompiler g = new GraphCompiler();
        int[] badOps = {-1, 21, MIN, MAX};
        for (int op : badOps) {
            due("emit of op " + op, g.emit(op, 0, 0), -1);
        }
        int[] overLocals = {LOAD, STORE, INC};
        for (int op : overLocals) {
            due("emit " + op + " of local -1", g.emit(op, -1, 0), -1);
            due("emit " + op + " of local 8", g.emit(op, 8, 0), -1);
        }
        int[] jumps = {IFZERO, IFLESS, GOTO};
        for (int op : jumps) {
            due("emit " + op + " to -1", g.emit(op, -1, 0), -1);
            due("emit " + op + " to 24", g.emit(op, 24, 0), -1);
        }
        due("a refused emit leaves the code", g.count(0), 0);
        int place = 0;
        for (int op : overLocals) {
            due("emit " + op + " of local 0", g.emit(op, 0, MIN), place++);
            due("emit " + op + " of local 7", g.emit(op, 7, MAX), place++);
        }
        for (int op : jumps) {
            due("emit " + op + " to 0", g.emit(op, 0, MIN), place++);
            due("emit " + op + " to 23", g.emit(op, 23, MAX), place++);
        }
        due("emit CONST of the least int", g.emit(CONST, MIN, 99), place++);
        for (int op = ADD; op <= POP && place < 24; op++) {
            due("emit " + op + " with operands that it ignores", g.emit(op, op % 2 == 0 ? MIN : 24, -1), place++);
        }
        due("all 24 are there", g.count(0), 24);
        due("a 25th", g.emit(RETURN, 0, 0), -1);
        due("still 24", g.count(0), 24);

        g = compiled(1, ins(CONST, 5), ins(RETURN));
        due("emit more", g.emit(CONST, 1, 0), 2);
        due("what is compiled stays", g.run(0, 0, 0, 0, 1), 5);
        due("and its text", g.nodes(0), 0);
    }

    static void patch() {
        GraphCompiler g = compiled(1, ins(CONST, 5), ins(RETURN));
        due("patch past the end", g.patch(2, CONST, 1, 0), -1);
        due("patch -1", g.patch(-1, CONST, 1, 0), -1);
        due("patch of a bad op", g.patch(0, 21, 1, 0), -1);
        due("patch of op -1", g.patch(0, -1, 1, 0), -1);
        due("patch to local 8", g.patch(0, LOAD, 8, 0), -1);
        due("patch to INC of local -1", g.patch(0, INC, -1, 0), -1);
        due("patch to a far target", g.patch(0, GOTO, 24, 0), -1);
        due("refused ones changed nothing", g.compile(), 1);
        due("refused ones changed no answer", g.run(0, 0, 0, 0, 1), 5);
        due("patch", g.patch(0, CONST, 6, 0), 0);
        due("patch does not grow", g.count(0), 2);
        due("what is compiled stays", g.run(0, 0, 0, 0, 1), 5);
        due("compile again", g.compile(), 1);
        due("now it counts", g.run(0, 0, 0, 0, 1), 6);
        due("patch with ignored operands", g.patch(1, RETURN, MIN, MAX), 0);
        due("compile with them", g.compile(), 1);
    }

    static void clear() {
        GraphCompiler g = compiled(1, ins(CONST, 5), ins(RETURN));
        due("clear", g.clear(), 2);
        due("no instruction", g.count(0), 0);
        due("clear twice", g.clear(), 0);
        due("compiled stays", g.count(1), 1);
        due("it runs on", g.run(0, 0, 0, 0, 1), 5);
        due("patch has none to change", g.patch(0, CONST, 1, 0), -1);
        due("numbers begin anew", g.emit(CONST, 7, 0), 0);
        due("not closed: the old RETURN is gone", g.compile(), -2);
        due("bad at the last", g.badAt(), 0);
        due("RETURN", g.emit(RETURN, 0, 0), 1);
        due("compile", g.compile(), 1);
        due("run", g.run(0, 0, 0, 0, 1), 7);
    }

    static void compileAndBadAt() {
        bad("empty", 0);
        bad("takes more than there is", 0, ins(RETURN));
        bad("ADD of one", 1, ins(CONST, 1), ins(ADD), ins(RETURN));
        bad("SWAP of one", 1, ins(CONST, 1), ins(SWAP), ins(RETURN));
        bad("DUP of none", 0, ins(DUP), ins(RETURN));
        bad("IFLESS of one", 1, ins(CONST, 1), ins(IFLESS, 0), ins(RETURN));
        bad("five high by LOAD", 4, ins(LOAD, 1), ins(LOAD, 1), ins(LOAD, 1), ins(LOAD, 1), ins(LOAD, 1), ins(RETURN));
        bad("five high by DUP", 4, ins(LOAD, 1), ins(DUP), ins(DUP), ins(DUP), ins(DUP), ins(RETURN));
        compiled(1, ins(LOAD, 1), ins(DUP), ins(DUP), ins(DUP), ins(SWAP), ins(ADD), ins(RETURN));
        bad("runs off the end", 1, ins(CONST, 1), ins(POP));
        bad("IFZERO as the last", 1, ins(CONST, 1), ins(IFZERO, 0));
        bad("target past the end", 1, ins(CONST, 1), ins(IFZERO, 3), ins(GOTO, 0));
        bad("GOTO past the end", 0, ins(GOTO, 1));
        bad("heights differ at the next", 4, ins(LOAD, 0), ins(IFZERO, 4), ins(CONST, 1), ins(CONST, 2), ins(RETURN));
        bad("heights differ at the target", 0, ins(CONST, 1), ins(GOTO, 0));
        bad("the target comes before the next", 0, ins(CONST, 1), ins(CONST, 1), ins(IFZERO, 0));
        // 4 gives heights to 1 and to 5, and both are too low for an ADD.
        bad("the least place is looked at first", 1, ins(GOTO, 3), ins(ADD), ins(ADD), ins(LOAD, 0), ins(IFZERO, 1), ins(ADD));
        compiled(1, ins(CONST, 1), ins(RETURN), ins(ADD), ins(ADD));
        compiled(1, ins(GOTO, 0));

        GraphCompiler g = compiled(1, ins(CONST, 5), ins(RETURN));
        due("patch", g.patch(1, ADD, 0, 0), 0);
        due("bad now", g.compile(), -2);
        due("bad place", g.badAt(), 1);
        due("blocks stay", g.count(1), 1);
        due("reached ones stay", g.count(2), 1);
        due("leader stays", g.leader(0), 0);
        due("run stays", g.run(0, 0, 0, 0, 1), 5);
        due("mend", g.patch(1, RETURN, 0, 0), 0);
        due("badAt is as the last compile set it", g.badAt(), 1);
        due("good again", g.compile(), 1);
        due("badAt again", g.badAt(), -1);
    }

    static void leaderHeightFollower() {
        // 6 and 7 are not come to, so 7 makes no leader of its target 1.
        GraphCompiler g = compiled(4, ins(LOAD, 0), ins(LOAD, 1), ins(IFZERO, 4), ins(GOTO, 5), ins(INC, 2, 1), ins(RETURN),
            ins(CONST, 1), ins(GOTO, 1));
        long[][] want = {{0, 0, 2, 1}, {3, 1, 3, -1}, {4, 1, 3, -1}, {5, 1, -1, -1}};
        for (int block = 0; block < want.length; block++) {
            due("leader " + block, g.leader(block), want[block][0]);
            due("height " + block, g.height(block), want[block][1]);
            due("follower 0 of " + block, g.follower(block, 0), want[block][2]);
            due("follower 1 of " + block, g.follower(block, 1), want[block][3]);
            due("follower 2 of " + block, g.follower(block, 2), -1);
            due("follower -1 of " + block, g.follower(block, -1), -1);
        }
        int[] none = {-1, 4, 24, MIN, MAX};
        for (int block : none) {
            due("leader of no block", g.leader(block), -1);
            due("height of no block", g.height(block), -1);
            due("follower of no block", g.follower(block, 0), -1);
            due("reached of no block", g.reached(block) ? 1 : 0, 0);
            due("known of no block", g.known(block, 4), NONE);
            due("nodes of no block", g.nodes(block), -1);
            due("pinned of no block", g.pinned(block), -1);
            due("saved of no block", g.saved(block), -1);
            due("outcome of no block", g.outcome(block, 4), NONE);
            due("text of no block", g.text(block, 4, -1), -1);
        }
        g = compiled(2, ins(LOAD, 0), ins(IFZERO, 2), ins(LOAD, 0), ins(RETURN));
        due("equal followers: 0", g.follower(0, 0), 1);
        due("equal followers: 1", g.follower(0, 1), 1);
        g = compiled(1, ins(GOTO, 0));
        due("a block follows itself", g.follower(0, 0), 0);
        // Target 1 cuts what would be one block; the jump itself ends the second.
        g = compiled(3, ins(INC, 0, 1), ins(INC, 0, -1), ins(LOAD, 0), ins(IFZERO, 1), ins(LOAD, 0), ins(RETURN));
        due("a target cuts", g.leader(1), 1);
        due("the cut block goes on", g.follower(0, 0), 1);
        due("back", g.follower(1, 0), 1);
        due("on", g.follower(1, 1), 2);
        // All four stack cells live over a block's end.
        g = compiled(2, ins(LOAD, 0), ins(LOAD, 1), ins(LOAD, 2), ins(CONST, 9), ins(GOTO, 5), ins(ADD), ins(ADD), ins(ADD), ins(RETURN));
        due("four cells", g.height(1), 4);
        due("the top cell is known", g.known(1, 11), 9);
        due("the others are not", g.known(1, 10), NONE);
        due("no cell more", g.known(1, 12), NONE);
        due("no cell below", g.known(1, -1), NONE);
        due("outcome of the top cell", g.outcome(0, 11), 9);
        due("text of a cell", textOf(g, 0, 10), "e2");
        // Slot 12 of a block is no other name for slot 0 of the next, which is known here.
        g = compiled(3, ins(CONST, 1), ins(DUP), ins(DUP), ins(DUP), ins(GOTO, 5), ins(STORE, 0), ins(GOTO, 7), ins(RETURN));
        due("four cells again", g.height(1), 4);
        due("slot 0 of the next", g.known(2, 0), 1);
        due("no slot 12", g.known(1, 12), NONE);
    }

    static void reachedAndKnown() {
        GraphCompiler g = compiled(1, ins(CONST, 0), ins(RETURN));
        for (int slot = -1; slot <= 12; slot++) {
            due("start of block 0, slot " + slot, g.known(0, slot), slot >= 4 && slot <= 7 ? 0 : NONE);
        }
        due("block 0 is reached", g.reached(0) ? 1 : 0, 1);

        // Two ways meet: 4 gets the same CONST on both, 5 different ones, 6 a CONST and something open.
        g = compiled(4, ins(CONST, 3), ins(STORE, 4), ins(LOAD, 0), ins(IFZERO, 10), ins(CONST, 3), ins(STORE, 4), ins(CONST, 1),
            ins(STORE, 5), ins(CONST, 2), ins(GOTO, 13), ins(LOAD, 0), ins(STORE, 6), ins(CONST, 2), ins(RETURN));
        due("same CONST", g.known(3, 4), 3);
        due("different CONSTs", g.known(3, 5), NONE);
        due("CONST and open", g.known(3, 6), NONE);
        due("untouched", g.known(3, 7), 0);
        due("given local", g.known(3, 0), NONE);
        due("same CONST in a cell", g.known(3, 8), 2);
        due("all reached", g.count(2), 4);

        // IFZERO on a CONST goes one way only; what the other way would bring is not met.
        g = compiled(3, ins(LOAD, 4), ins(IFZERO, 4), ins(CONST, 7), ins(STORE, 5), ins(LOAD, 5), ins(RETURN));
        due("IFZERO of 0: not the next", g.reached(1) ? 1 : 0, 0);
        due("IFZERO of 0: the target", g.reached(2) ? 1 : 0, 1);
        due("nothing from what is not reached", g.known(2, 5), 0);
        due("not reached: open", g.known(1, 4), NONE);
        due("not reached: its text", textOf(g, 1, 4), "e4");
        due("not reached: its outcome", g.outcome(1, 5), 7);
        due("counted", g.count(2), 2);
        g = compiled(3, ins(CONST, -1), ins(IFZERO, 4), ins(CONST, 7), ins(STORE, 5), ins(LOAD, 5), ins(RETURN));
        due("IFZERO of -1: the next", g.reached(1) ? 1 : 0, 1);
        due("IFZERO of -1: what it brings", g.known(2, 5), 7);

        lessWays(3, 4, true);
        lessWays(4, 4, false);
        lessWays(MIN, MAX, true);
        lessWays(MAX, MIN, false);
        // x and y are the SAME but no CONSTs: both ways are reached.
        g = compiled(3, ins(LOAD, 0), ins(LOAD, 0), ins(IFLESS, 5), ins(CONST, 1), ins(RETURN), ins(CONST, 2), ins(RETURN));
        due("IFLESS of SAME ones", g.count(2), 3);
    }

    static void lessWays(int x, int y, boolean target) {
        GraphCompiler g = compiled(3, ins(CONST, x), ins(CONST, y), ins(IFLESS, 5), ins(CONST, 1), ins(RETURN), ins(CONST, 2), ins(RETURN));
        due(x + " less than " + y + ": target", g.reached(2) ? 1 : 0, target ? 1 : 0);
        due(x + " less than " + y + ": next", g.reached(1) ? 1 : 0, target ? 0 : 1);
        due(x + " less than " + y + ": run", g.run(0, 0, 0, 0, 9), target ? 2 : 1);
    }

    static void loops() {
        // 4 stays 0 all around, 5 grows: the branch on 5 is settled at first and opens later.
        GraphCompiler g = compiled(3, ins(LOAD, 5), ins(IFZERO, 4), ins(LOAD, 5), ins(RETURN), ins(INC, 5, 1), ins(GOTO, 0));
        due("loop: all reached in the end", g.count(2), 3);
        due("loop: 5 opens at the start of block 0", g.known(0, 5), NONE);
        due("loop: 4 stays known", g.known(0, 4), 0);
        due("loop: 5 is open in the exit", g.known(1, 5), NONE);
        due("loop: run", g.run(0, 0, 0, 0, 9), 1);
        due("loop: entered", g.count(3), 4);
        // 5 is set to what it was: it stays known around the loop, so the exit is never reached.
        g = compiled(3, ins(LOAD, 5), ins(IFZERO, 4), ins(LOAD, 5), ins(RETURN), ins(INC, 4, 1), ins(GOTO, 0));
        due("endless: two reached", g.count(2), 2);
        due("endless: 5 known", g.known(0, 5), 0);
        due("endless: 4 open", g.known(2, 4), NONE);
        due("endless: run", g.run(0, 0, 0, 0, 501), TIRED);
        due("endless: entered", g.count(3), 500);
    }

    static void nodesPinnedSaved() {
        // (e0 + e1) is asked for twice and shared; the POPped one is used by nothing.
        GraphCompiler g = compiled(1, ins(LOAD, 0), ins(LOAD, 1), ins(ADD), ins(LOAD, 1), ins(LOAD, 0), ins(ADD), ins(MUL),
            ins(LOAD, 2), ins(NEG), ins(POP), ins(INC, 3, 1), ins(RETURN));
        due("nodes: shared, dropped, INC", g.nodes(0), 3);
        due("saved: five asked for", g.saved(0), 2);
        due("pinned: none", g.pinned(0), 0);
        // The locals at the end count although a RETURN ends the run; what RETURN takes counts too.
        g = compiled(1, ins(LOAD, 0), ins(NEG), ins(STORE, 1), ins(LOAD, 2), ins(LOAD, 3), ins(SUB), ins(RETURN));
        due("nodes: local and returned", g.nodes(0), 2);
        g = compiled(2, ins(LOAD, 0), ins(NEG), ins(LOAD, 1), ins(LOAD, 0), ins(SUB), ins(IFLESS, 6), ins(CONST, 0), ins(RETURN));
        due("nodes: both that IFLESS takes", g.nodes(0), 2);
        g = compiled(2, ins(LOAD, 0), ins(NEG), ins(IFZERO, 3), ins(CONST, 0), ins(RETURN));
        due("nodes: what IFZERO takes", g.nodes(0), 1);
        // A value overwritten before the end is not used, though it was stored.
        g = compiled(1, ins(INC, 0, 1), ins(CONST, 0), ins(STORE, 0), ins(CONST, 0), ins(RETURN));
        due("nodes: overwritten", g.nodes(0), 0);
        due("saved: overwritten", g.saved(0), 1);
        // Only the operands of used ones are used with them.
        g = compiled(1, ins(LOAD, 0), ins(NEG), ins(LOAD, 1), ins(SUB), ins(DUP), ins(MUL), ins(RETURN));
        due("nodes: operands of operands", g.nodes(0), 3);
        due("saved: moves are not asked for", g.saved(0), 0);
        // INC by 0 and DUP, SWAP, POP make nothing.
        g = compiled(1, ins(INC, 0, 0), ins(LOAD, 0), ins(DUP), ins(SWAP), ins(POP), ins(RETURN));
        due("nodes: nothing", g.nodes(0), 0);
        due("saved: the INC", g.saved(0), 1);
        divisions();
    }

    static void divisions() {
        pinnedBy("by an open one", 1, 1, ins(LOAD, 0), ins(LOAD, 1));
        pinnedBy("by itself", 1, 1, ins(LOAD, 0), ins(LOAD, 0));
        pinnedBy("by CONST 0", 1, 1, ins(LOAD, 0), ins(CONST, 0));
        pinnedBy("of CONSTs by 0", 1, 1, ins(CONST, 0), ins(CONST, 0));
        pinnedBy("by CONST 2", 0, 0, ins(LOAD, 0), ins(CONST, 2));
        pinnedBy("by CONST 1", 0, 0, ins(LOAD, 0), ins(CONST, 1));
        pinnedBy("of CONSTs", 0, 0, ins(CONST, 7), ins(CONST, 2));
        // A pinned one keeps its operands, and two that are SAME are one.
        GraphCompiler g = compiled(1, ins(LOAD, 0), ins(NEG), ins(LOAD, 1), ins(DIV), ins(LOAD, 0), ins(NEG), ins(LOAD, 1), ins(DIV),
            ins(SUB), ins(RETURN));
        due("pinned: shared", g.pinned(0), 1);
        due("nodes: pinned and its operand", g.nodes(0), 2);
        due("saved: shared", g.saved(0), 3);
        due("runs", g.run(6, 2, 0, 0, 1), 0);
        due("traps all the same", g.run(6, 0, 0, 0, 1), TRAP);
        // DIV by CONST 0 times 0: gone from the outcome, not from the block.
        g = compiled(1, ins(CONST, 4), ins(CONST, 0), ins(DIV), ins(CONST, 0), ins(MUL), ins(STORE, 4), ins(CONST, 1), ins(RETURN));
        due("times 0", g.outcome(0, 4), 0);
        due("times 0: pinned", g.pinned(0), 1);
        due("times 0: nodes", g.nodes(0), 1);
        due("times 0: run", g.run(0, 0, 0, 0, 1), TRAP);
        due("times 0: entered", g.count(3), 1);
    }

    static void pinnedBy(String what, int pinned, int nodes, int[] first, int[] second) {
        GraphCompiler g = compiled(1, first, second, ins(DIV), ins(POP), ins(CONST, 0), ins(RETURN));
        due("DIV " + what + ": pinned", g.pinned(0), pinned);
        due("DIV " + what + ": nodes", g.nodes(0), nodes);
        due("DIV " + what + ": saved", g.saved(0), 1 - nodes);
    }

    static void outcome() {
        GraphCompiler g = compiled(2, ins(LOAD, 0), ins(STORE, 4), ins(CONST, -8), ins(STORE, 5), ins(CONST, MIN), ins(GOTO, 6), ins(RETURN));
        due("an ENTRY", g.outcome(0, 4), NONE);
        due("a CONST", g.outcome(0, 5), -8);
        due("known from the start", g.outcome(0, 6), 0);
        due("a cell that the block puts", g.outcome(0, 8), MIN);
        due("no such cell", g.outcome(0, 9), NONE);
        due("a cell that RETURN took", g.outcome(1, 8), NONE);
        due("but it was known at the start", g.known(1, 8), MIN);
        due("slot -1", g.outcome(0, -1), NONE);
        due("slot 12", g.outcome(0, 12), NONE);
        due("slot far off", g.outcome(0, MAX), NONE);
        due("known slot far off", g.known(0, MIN), NONE);
        due("handed over", g.outcome(1, 5), -8);
    }

    static void making() {
        int[] e = ins(LOAD, 0);
        int[] f = ins(LOAD, 1);
        String signs = "+-*/&|^<>";
        int[] swapped = {ADD, MUL, AND, OR, XOR};
        for (int op = ADD; op <= SHR; op++) {
            char sign = signs.charAt(op - ADD);
            due("two ENTRYs", made(op, e, f), "(e0" + sign + "e1)");
            due("in their order", made(op, f, e), "(e1" + sign + "e0)");
            due("CONST second", made(op, e, ins(CONST, -7)), "(e0" + sign + "-7)");
            boolean swaps = false;
            for (int other : swapped) {
                swaps |= other == op;
            }
            due("CONST first", made(op, ins(CONST, 7), e), swaps ? "(e0" + sign + "7)" : "(7" + sign + "e0)");
        }
        String[] byZero = {"e0", "e0", "0", "(e0/0)", "0", "e0", "e0", "e0", "e0"};
        String[] ofZero = {"e0", "(0-e0)", "0", "(0/e0)", "0", "e0", "e0", "(0<e0)", "(0>e0)"};
        String[] byOne = {"(e0+1)", "(e0-1)", "e0", "e0", "(e0&1)", "(e0|1)", "(e0^1)", "(e0<1)", "(e0>1)"};
        String[] ofOne = {"(e0+1)", "(1-e0)", "e0", "(1/e0)", "(e0&1)", "(e0|1)", "(e0^1)", "(1<e0)", "(1>e0)"};
        String[] itself = {"(e0+e0)", "0", "(e0*e0)", "(e0/e0)", "e0", "e0", "0", "(e0<e0)", "(e0>e0)"};
        for (int op = ADD; op <= SHR; op++) {
            due(op + " by 0", made(op, e, ins(CONST, 0)), byZero[op - ADD]);
            due(op + " of 0", made(op, ins(CONST, 0), e), ofZero[op - ADD]);
            due(op + " by 1", made(op, e, ins(CONST, 1)), byOne[op - ADD]);
            due(op + " of 1", made(op, ins(CONST, 1), e), ofOne[op - ADD]);
            due(op + " with itself", made(op, e, e), itself[op - ADD]);
        }
        due("SHL by 32 is no SHL by 0", made(SHL, e, ins(CONST, 32)), "(e0<32)");
        due("AND of -1", made(AND, e, ins(CONST, -1)), "(e0&-1)");
        due("DIV of CONSTs by 0", made(DIV, ins(CONST, 3), ins(CONST, 0)), "(3/0)");
        folding();
        sharing();
    }

    static void folding() {
        long[][] sums = {
            {ADD, MAX, 1, MIN}, {SUB, MIN, 1, MAX}, {MUL, 65536, 65536, 0}, {MUL, MIN, -1, MIN}, {DIV, -7, 2, -3}, {DIV, MIN, -1, MIN},
            {AND, 12, 10, 8}, {OR, 12, 10, 14}, {XOR, 12, 10, 6}, {SHL, 1, 31, MIN}, {SHL, 1, 33, 2}, {SHL, 1, -1, MIN},
            {SHR, -8, 1, -4}, {SHR, MIN, 63, -1}, {SHR, 8, 35, 1}, {DIV, 0, 5, 0},
        };
        for (long[] sum : sums) {
            int op = (int) sum[0];
            due(op + " of CONSTs", made(op, ins(CONST, (int) sum[1]), ins(CONST, (int) sum[2])), Long.toString(sum[3]));
            GraphCompiler g = compiled(1, ins(LOAD, 0), ins(LOAD, 1), ins(op), ins(RETURN));
            due(op + " in a run", g.run((int) sum[1], (int) sum[2], 0, 0, 1), sum[3]);
        }
        GraphCompiler g = compiled(1, ins(INC, 4, 5), ins(INC, 4, -7), ins(CONST, MIN), ins(NEG), ins(RETURN));
        due("INC of a CONST", g.outcome(0, 4), -2);
        due("NEG of the least int", g.run(0, 0, 0, 0, 1), MIN);
        due("all folded", g.nodes(0), 0);
        due("all saved", g.saved(0), 3);
    }

    static void sharing() {
        // NEG of NEG; SUB of SAME sums that were made in different orders.
        GraphCompiler g = compiled(1, ins(LOAD, 0), ins(NEG), ins(DUP), ins(STORE, 4), ins(NEG), ins(STORE, 5),
            ins(LOAD, 0), ins(LOAD, 1), ins(MUL), ins(LOAD, 1), ins(LOAD, 0), ins(MUL), ins(SUB), ins(STORE, 6),
            ins(LOAD, 0), ins(LOAD, 1), ins(SUB), ins(LOAD, 1), ins(LOAD, 0), ins(SUB), ins(XOR), ins(STORE, 7), ins(CONST, 0), ins(RETURN));
        due("NEG", textOf(g, 0, 4), "(-e0)");
        due("NEG of NEG", textOf(g, 0, 5), "e0");
        due("SUB of SAME products", g.outcome(0, 6), 0);
        due("SUBs in other orders differ", textOf(g, 0, 7), "((e0-e1)^(e1-e0))");
        due("nodes", g.nodes(0), 4);
        // The first made keeps its order; a CONST that stood first has changed places before.
        g = compiled(1, ins(LOAD, 1), ins(LOAD, 0), ins(AND), ins(STORE, 4), ins(LOAD, 0), ins(LOAD, 1), ins(AND), ins(STORE, 5),
            ins(CONST, 6), ins(LOAD, 0), ins(OR), ins(STORE, 6), ins(LOAD, 0), ins(CONST, 6), ins(OR), ins(STORE, 7), ins(CONST, 0), ins(RETURN));
        due("first order", textOf(g, 0, 4), "(e1&e0)");
        due("the same value again", textOf(g, 0, 5), "(e1&e0)");
        due("CONST last", textOf(g, 0, 6), "(e0|6)");
        due("SAME as that", textOf(g, 0, 7), "(e0|6)");
        due("two in all", g.nodes(0), 2);
        // INC is an ADD and shares with one.
        g = compiled(1, ins(CONST, 9), ins(LOAD, 0), ins(ADD), ins(STORE, 4), ins(INC, 0, 9), ins(LOAD, 0), ins(LOAD, 4), ins(SUB), ins(RETURN));
        due("INC shares with ADD", g.nodes(0), 1);
        due("INC's text", textOf(g, 0, 0), "(e0+9)");
        due("difference", g.run(77, 0, 0, 0, 1), 0);
        // SAME values that one block made are not there for the next.
        g = compiled(2, ins(LOAD, 0), ins(NEG), ins(STORE, 1), ins(GOTO, 4), ins(LOAD, 0), ins(NEG), ins(LOAD, 1), ins(SUB), ins(RETURN));
        due("the next block knows no values", g.nodes(1), 2);
    }

    static void text() {
        GraphCompiler g = compiled(1, ins(LOAD, 0), ins(CONST, MIN), ins(MUL), ins(STORE, 4), ins(CONST, MAX), ins(STORE, 5),
            ins(LOAD, 1), ins(NEG), ins(LOAD, 2), ins(NEG), ins(DIV), ins(STORE, 6), ins(CONST, -10), ins(STORE, 7), ins(CONST, 0), ins(RETURN));
        due("least int", textOf(g, 0, 4), "(e0*-2147483648)");
        due("greatest int", textOf(g, 0, 5), "2147483647");
        due("NEGs inside", textOf(g, 0, 6), "((-e1)/(-e2))");
        due("-10", textOf(g, 0, 7), "-10");
        due("own ENTRY", textOf(g, 0, 3), "e3");
        due("slot -1", g.text(0, -1, -1), -1);
        due("slot 8 after RETURN", g.text(0, 8, -1), -1);
        due("slot 12", g.text(0, 12, 0), -1);
        due("character far off", g.text(0, 5, MAX), -1);
        due("character far below", g.text(0, 5, MIN), -1);
        g = compiled(1, ins(CONST, 0), ins(RETURN));
        due("zero", textOf(g, 0, 4), "0");
        g = compiled(2, ins(LOAD, 0), ins(DUP), ins(DUP), ins(LOAD, 1), ins(GOTO, 5), ins(SUB), ins(SUB), ins(SUB), ins(STORE, 2), ins(CONST, 1), ins(RETURN));
        due("cells as ENTRYs", textOf(g, 1, 2), "(e8-(e9-(e10-e11)))");
        limits();
    }

    static void limits() {
        exactLengths();
        // Ten squares one over the other: a thousand times "e0", of which 60 characters are the TEXT.
        GraphCompiler g = new GraphCompiler();
        g.emit(LOAD, 0, 0);
        for (int i = 0; i < 10; i++) {
            g.emit(DUP, 0, 0);
            g.emit(MUL, 0, 0);
        }
        g.emit(STORE, 4, 0);
        g.emit(LOAD, 4, 0);
        g.emit(RETURN, 0, 0);
        due("compile", g.compile(), 1);
        due("first 60", textOf(g, 0, 4), "((((((((((e0*e0)*(e0*e0))*((e0*e0)*(e0*e0)))*(((e0*e0)*(e0*e");
        due("nodes", g.nodes(0), 10);
    }

    /** TEXTs of 59, 60 and 61 characters, by a number that fills up. */
    static void exactLengths() {
        int[] fill = {10000, 100000, 1000000};
        for (int i = 0; i < fill.length; i++) {
            GraphCompiler g = new GraphCompiler();
            StringBuilder want = new StringBuilder("(e0-" + fill[i] + ")");
            g.emit(LOAD, 0, 0);
            g.emit(CONST, fill[i], 0);
            g.emit(SUB, 0, 0);
            for (int j = 0; j < 7; j++) {
                g.emit(CONST, 1234, 0);
                g.emit(SUB, 0, 0);
                want.insert(0, '(').append("-1234)");
            }
            g.emit(STORE, 4, 0);
            g.emit(CONST, 0, 0);
            g.emit(RETURN, 0, 0);
            due("compile", g.compile(), 1);
            due("whole length", want.length(), 59 + i);
            due("length", g.text(0, 4, -1), Math.min(60, 59 + i));
            due("exact text", textOf(g, 0, 4), want.substring(0, Math.min(60, want.length())));
        }
    }

    static void run() {
        GraphCompiler g = compiled(3, ins(LOAD, 0), ins(IFZERO, 5), ins(INC, 0, -1), ins(INC, 1, 3), ins(GOTO, 0), ins(LOAD, 1), ins(RETURN));
        due("ten times round", g.run(10, 5, 0, 0, 100), 35);
        due("entered", g.count(3), 22);
        due("just enough", g.run(10, 5, 0, 0, 22), 35);
        due("one too few", g.run(10, 5, 0, 0, 21), TIRED);
        due("entered of those", g.count(3), 21);
        due("249 times round", g.run(249, 0, 0, 0, 1000), 747);
        due("500 entered", g.count(3), 500);
        due("250 times round", g.run(250, 0, 0, 0, MAX), TIRED);
        due("no more than 500", g.count(3), 500);
        int[] little = {1, 0, -1, MIN};
        for (int fuel : little) {
            due("fuel " + fuel, g.run(0, 5, 0, 0, fuel), TIRED);
            due("fuel " + fuel + " entered", g.count(3), 1);
        }
        g = compiled(1, ins(LOAD, 0), ins(LOAD, 1), ins(LOAD, 2), ins(LOAD, 3), ins(SUB), ins(SUB), ins(SUB), ins(RETURN));
        due("a - (b - (c - d))", g.run(1000, 100, 10, 1, 0), 909);
        due("one block is entered for any fuel", g.run(1000, 100, 10, 1, MIN), 909);
        g = compiled(1, ins(INC, 4, 1), ins(LOAD, 4), ins(INC, 0, 2), ins(LOAD, 0), ins(SWAP), ins(SUB), ins(RETURN));
        due("a + 2 - 1", g.run(5, 0, 0, 0, 1), 6);
        due("nothing is left of the last run", g.run(5, 0, 0, 0, 1), 6);
        g = compiled(2, ins(CONST, 1), ins(GOTO, 2), ins(LOAD, 0), ins(DIV), ins(RETURN));
        due("TRAP", g.run(0, 0, 0, 0, 9), TRAP);
        due("TRAP after two blocks", g.count(3), 2);
        due("no TRAP", g.run(1, 0, 0, 0, 9), 1);
        due("tired before the TRAP", g.run(0, 0, 0, 0, 1), TIRED);
        due("entered", g.count(3), 1);
        g = compiled(1, ins(LOAD, 0), ins(CONST, 7), ins(RETURN));
        due("RETURN takes the top", g.run(3, 0, 0, 0, 1), 7);
    }

    static void count() {
        GraphCompiler g = compiled(3, ins(LOAD, 4), ins(IFZERO, 4), ins(CONST, 7), ins(STORE, 5), ins(LOAD, 5), ins(RETURN));
        due("instructions", g.count(0), 6);
        due("blocks", g.count(1), 3);
        due("reached", g.count(2), 2);
        due("entered before", g.count(3), 0);
        due("run", g.run(0, 0, 0, 0, 9), 0);
        due("entered", g.count(3), 2);
        int[] none = {-1, 4, MIN, MAX};
        for (int what : none) {
            due("count " + what, g.count(what), -1);
        }
        due("clear", g.clear(), 6);
        due("BAD", g.compile(), -2);
        due("instructions now", g.count(0), 0);
        due("blocks stay", g.count(1), 3);
        due("reached stay", g.count(2), 2);
        due("entered stays", g.count(3), 2);
        write(g, ins(CONST, 1), ins(RETURN));
        due("compile", g.compile(), 1);
        due("entered stays over a compile", g.count(3), 2);
        due("reached of the new", g.count(2), 1);
        due("the old blocks are gone", g.leader(1), -1);
    }

    /** More compiles on one object: nothing of older code may shine through. */
    static void compileAgain() {
        GraphCompiler g = compiled(3, ins(LOAD, 5), ins(IFZERO, 4), ins(LOAD, 5), ins(RETURN), ins(INC, 5, 1), ins(GOTO, 0));
        due("5 is open", g.known(0, 5), NONE);
        due("clear", g.clear(), 6);
        write(g, ins(LOAD, 5), ins(IFZERO, 4), ins(CONST, 8), ins(RETURN), ins(CONST, 9), ins(RETURN));
        due("compile", g.compile(), 3);
        due("5 is known again", g.known(0, 5), 0);
        due("one way again", g.reached(1) ? 1 : 0, 0);
        due("not reached: open", g.known(1, 5), NONE);
        due("not reached: open, though known of the older code", g.known(1, 4), NONE);
        due("the other way", g.known(2, 5), 0);
        due("run", g.run(0, 0, 0, 0, 2), 9);
        due("clear again", g.clear(), 6);
        write(g, ins(LOAD, 5), ins(DUP), ins(ADD), ins(DUP), ins(ADD), ins(RETURN));
        due("no leaders of the older code", g.compile(), 1);
    }

    /** Answers about one block leave those about another as they are. */
    static void blocksApart() {
        // What the second and the third make is dropped, and nothing is taken at their ends.
        GraphCompiler g = compiled(3, ins(LOAD, 0), ins(NEG), ins(DUP), ins(LOAD, 1), ins(ADD), ins(IFLESS, 10),
            ins(LOAD, 0), ins(NEG), ins(POP), ins(INC, 1, 0), ins(LOAD, 0), ins(LOAD, 1), ins(SUB), ins(NEG), ins(POP), ins(GOTO, 10));
        due("nodes of the first", g.nodes(0), 2);
        due("nodes of the second", g.nodes(1), 0);
        due("nodes of the first again", g.nodes(0), 2);
        due("nodes of the third", g.nodes(2), 0);
        due("saved of the third", g.saved(2), 2);
        due("text between", textOf(g, 0, 0), "e0");
        due("pinned of the third", g.pinned(2), 0);
        due("nodes of the third again", g.nodes(2), 0);
    }

    public static void main(String[] args) {
        newObject();
        emit();
        patch();
        clear();
        compileAndBadAt();
        leaderHeightFollower();
        reachedAndKnown();
        loops();
        nodesPinnedSaved();
        outcome();
        making();
        text();
        run();
        count();
        compileAgain();
        blocksApart();
        System.out.println(wrong == 0 ? asked + " answers are as due" : wrong + " answers of " + asked + " are not as due");
        if (wrong != 0) {
            System.exit(1);
        }
    }
}
