/** The edges that the document names in its promises: a test for each sentence, worked out by hand. */
public final class CallEdgesTest extends Trial {
    static final String LOOP = "LOAD 0; IFZERO 5; INC 0 -1; INC 1 3; GOTO 0; LOAD 1; RETURN";
    static final String ENDLESS = "GOTO 0";

    static void theObject() {
        of("An object is used for at most 512 calls after it has been made");
        GraphCompiler g = new GraphCompiler();
        for (int i = 0; i < 24; i++) {
            due("call " + i, g.emit(INC, 0, 1), i);
        }
        for (int call = 24; call < 510; call++) {
            due("call " + call, g.patch(call % 24, INC, call % 8, call), DONE);
        }
        due("call 510", g.patch(23, GOTO, 0, 0), DONE);
        due("call 511", g.compile(), 1);
        g = compiled(1, ENDLESS);
        // Writing and compiling it took three calls.
        for (int call = 3; call < 512; call++) {
            due("call " + call, g.run(call, 0, 0, 0, 500), TIRED);
        }
        g = new GraphCompiler();
        for (int call = 0; call < 508; call += 4) {
            due("call " + call, g.clear(), call == 0 ? 0 : 2);
            g.emit(CONST, call, 0);
            g.emit(RETURN, 0, 0);
            due("call " + (call + 3), g.compile(), 1);
        }
        due("call 508", g.run(0, 0, 0, 0, 1), 504);
    }

    static void constants() {
        of("public static final int REFUSED = -1;");
        due("REFUSED", GraphCompiler.REFUSED, -1);
        of("public static final int BAD = -2;");
        due("BAD", GraphCompiler.BAD, -2);
        of("public static final int DONE = 0;");
        due("DONE", GraphCompiler.DONE, 0);
        of("public static final long NONE = 1000000000000L;");
        due("NONE", GraphCompiler.NONE, 1000000000000L);

        of("`TRAP = 1000000000001L`: The run TRAPs.");
        due("TRAP", GraphCompiler.TRAP, 1000000000001L);
        due("a run", answer("CONST 1; CONST 0; DIV; RETURN"), 1000000000001L);

        of("`TIRED = 1000000000002L`: The run takes more blocks than it may.");
        due("TIRED", GraphCompiler.TIRED, 1000000000002L);
        due("a run", answer(ENDLESS), 1000000000002L);
    }

    static void newOnes() {
        of("Empty code; nothing compiled.");
        GraphCompiler g = new GraphCompiler();
        for (int what = 0; what < 4; what++) {
            due("count " + what, g.count(what), 0);
        }
        nothingCompiled(g);
        due("patch", g.patch(0, CONST, 0, 0), REFUSED);
        due("clear", g.clear(), 0);
        due("the first number", g.emit(CONST, 0, 0), 0);
        g = new GraphCompiler();
        due("compile", g.compile(), BAD);
        nothingCompiled(g);
        GraphCompiler other = compiled(3, LOOP);
        due("another one's run", other.run(2, 0, 0, 0, 9), 6);
        nothingCompiled(new GraphCompiler());
        due("another one's blocks", other.count(1), 3);
        due("what another one entered", other.count(3), 6);
    }

    static void nothingCompiled(GraphCompiler g) {
        due("run", g.run(1, 2, 3, 4, 5), NONE);
        due("count 1", g.count(1), 0);
        due("count 2", g.count(2), 0);
        due("count 3", g.count(3), 0);
        due("leader", g.leader(0), REFUSED);
        due("height", g.height(0), REFUSED);
        due("follower", g.follower(0, 0), REFUSED);
        due("reached", g.reached(0), false);
        due("known", g.known(0, 4), NONE);
        due("nodes", g.nodes(0), REFUSED);
        due("pinned", g.pinned(0), REFUSED);
        due("saved", g.saved(0), REFUSED);
        due("outcome", g.outcome(0, 4), NONE);
        due("text", g.text(0, 4, 0), REFUSED);
        due("length of text", g.text(0, 4, -1), REFUSED);
    }

    static void emits() {
        of("Puts an instruction at the end of the code: its number.");
        GraphCompiler g = new GraphCompiler();
        for (int i = 0; i < 24; i++) {
            due("number " + i, g.emit(i == 23 ? RETURN : i == 22 ? LOAD : INC, 0, 1), i);
            due("so many", g.count(0), i + 1);
        }
        due("compile", g.compile(), 1);
        due("all in their order", g.run(5, 0, 0, 0, 1), 27);

        of("op out of 0 .. 20, a named operand out of its range, or 24 there: REFUSED.");
        g = new GraphCompiler();
        int[] noOps = {-1, 21, 22, 100, MIN, MAX};
        for (int op : noOps) {
            due("op " + op, g.emit(op, 0, 0), REFUSED);
        }
        int[] overLocals = {LOAD, STORE, INC};
        int[] jumps = {IFZERO, IFLESS, GOTO};
        int[] far = {-1, 24, MIN, MAX};
        for (int a : far) {
            for (int op : overLocals) {
                due(NAMES.get(op) + " " + a, g.emit(op, a, 0), REFUSED);
            }
            for (int op : jumps) {
                due(NAMES.get(op) + " " + a, g.emit(op, a, 0), REFUSED);
            }
        }
        for (int op : overLocals) {
            due(NAMES.get(op) + " 8", g.emit(op, 8, 0), REFUSED);
        }
        due("a refused one is not there", g.count(0), 0);
        int place = 0;
        for (int op = 0; op <= 20; op++) {
            due("op " + op, g.emit(op, 0, 0), place);
            place++;
        }
        for (int op : jumps) {
            due(NAMES.get(op) + " to 23", g.emit(op, 23, 0), place);
            place++;
        }
        for (int op = -1; op <= 21; op++) {
            due("op " + op + " where 24 are there", g.emit(op, 0, 0), REFUSED);
        }
        due("24 stay", g.count(0), 24);
        g.clear();
        due("after clear there is room", g.emit(CONST, 1, 0), 0);
        due("a refused one between", g.emit(LOAD, 8, 0), REFUSED);
        due("takes no number", g.emit(RETURN, 0, 0), 1);
        due("compile", g.compile(), 1);
        due("run", g.run(0, 0, 0, 0, 1), 1);
        g = compiled(1, times(22, "INC 0 1") + "LOAD 0; RETURN");
        due("a 25th", g.emit(NEG, 0, 0), REFUSED);
        due("has changed nothing", g.compile(), 1);
        due("in the last one", g.run(0, 0, 0, 0, 1), 22);
    }

    static void patches() {
        of("Changes instruction i: DONE.");
        GraphCompiler g = written(times(22, "INC 0 1") + "LOAD 0; RETURN");
        due("patch 0", g.patch(0, INC, 0, 100), DONE);
        due("patch 21", g.patch(21, INC, 0, 1000), DONE);
        due("patch 23", g.patch(23, GOTO, 23, 0), DONE);
        due("patch 23 back", g.patch(23, RETURN, 0, 0), DONE);
        due("none more than before", g.count(0), 24);
        due("compile", g.compile(), 1);
        due("only these are changed", g.run(0, 0, 0, 0, 1), 1120);
        due("both operands", g.patch(0, INC, 1, -5), DONE);
        due("and the op", g.patch(22, LOAD, 1, 0), DONE);
        due("compile", g.compile(), 1);
        due("run", g.run(0, 0, 0, 0, 1), -5);

        of("There is none of that number, or op or an operand out of range: REFUSED.");
        g = written("CONST 5; RETURN");
        int[] none = {-1, 2, 3, 23, 24, MIN, MAX};
        for (int i : none) {
            due("patch " + i, g.patch(i, CONST, 6, 0), REFUSED);
        }
        int[] noOps = {-1, 21, MIN, MAX};
        for (int op : noOps) {
            due("op " + op, g.patch(0, op, 0, 0), REFUSED);
        }
        int[] overLocals = {LOAD, STORE, INC};
        for (int op : overLocals) {
            due(NAMES.get(op) + " -1", g.patch(0, op, -1, 0), REFUSED);
            due(NAMES.get(op) + " 8", g.patch(0, op, 8, 0), REFUSED);
        }
        for (int op = IFZERO; op <= GOTO; op++) {
            due(NAMES.get(op) + " -1", g.patch(1, op, -1, 0), REFUSED);
            due(NAMES.get(op) + " 24", g.patch(1, op, 24, 0), REFUSED);
        }
        due("nothing is changed", g.compile(), 1);
        due("nor the number of them", g.count(0), 2);
        due("nor a run", g.run(0, 0, 0, 0, 1), 5);
        g.clear();
        due("none after clear", g.patch(0, CONST, 6, 0), REFUSED);
        due("none in a new one", new GraphCompiler().patch(0, CONST, 6, 0), REFUSED);
        for (int op = CONST; op <= INC; op++) {
            GraphCompiler one = written("CONST 5");
            due("op " + op, one.patch(0, op, 0, 0), DONE);
        }
    }

    static void clears() {
        of("The code becomes empty; what is compiled stays.");
        GraphCompiler g = compiled(3, LOOP);
        String before = answers(g);
        g.clear();
        due("no instructions", g.count(0), 0);
        due("what is compiled", answers(g), before);
        due("the first number again", g.emit(CONST, 1, 0), 0);
        due("nothing of the old ones is behind it", g.compile(), BAD);
        due("it runs off its end", g.badAt(), 0);

        of("How many instructions there were.");
        g = new GraphCompiler();
        due("none", g.clear(), 0);
        for (int size = 1; size <= 24; size++) {
            write(g, times(size, "INC 0 1"));
            due("with " + size, g.clear(), size);
        }
        due("none again", g.clear(), 0);
        write(g, times(24, "INC 0 1"));
        g.emit(INC, 0, 1);
        due("refused ones are not counted", g.clear(), 24);
    }

    static void compiles() {
        of("The code is BAD at a place by THE CHECK: BAD, badAt is that place, and what was compiled stays.");
        GraphCompiler g = compiled(3, LOOP);
        String before = answers(g);
        due("make it bad", g.patch(5, ADD, 0, 0), DONE);
        due("compile", g.compile(), BAD);
        due("badAt", g.badAt(), 5);
        due("what is compiled", answers(g), before);
        g.clear();
        due("empty", g.compile(), BAD);
        due("badAt of empty", g.badAt(), 0);
        due("what is compiled still", answers(g), before);
        write(g, times(24, "INC 0 1"));
        due("too long", g.compile(), BAD);
        due("badAt of too long", g.badAt(), 23);
        due("what is compiled in the end", answers(g), before);

        of("Else it is compiled as it is now, badAt is -1: the number of blocks.");
        g = written(times(23, "INC 0 1") + "GOTO 0");
        due("one block", g.compile(), 1);
        due("badAt", g.badAt(), -1);
        due("compile twice", g.compile(), 1);
        due("patch after", g.patch(0, INC, 0, 50), DONE);
        due("that is not compiled", textOf(g, 0, 0).endsWith("+1)+1"), true);
        due("emit is refused", g.emit(CONST, 0, 0), REFUSED);
        rewrite(g, 3, LOOP);
        due("three blocks", g.count(1), 3);
        rewrite(g, 1, "CONST 4; RETURN");
        due("one again", g.count(1), 1);
        due("the third is gone", g.leader(2), REFUSED);
        StringBuilder chain = new StringBuilder();
        for (int i = 1; i <= 24; i++) {
            chain.append("GOTO ").append(i % 24).append("; ");
        }
        rewrite(g, 24, chain.toString());
        due("all of them reached", g.count(2), 24);
        rewrite(g, 3, "LOAD 4; IFZERO 4; CONST 1; RETURN; CONST 2; RETURN");
        due("one reached in the code before is not in this", g.reached(1), false);
        due("nor counted", g.count(2), 2);
        due("what was known in the code before is open in this", g.known(1, 4), NONE);
        rewrite(g, 1, ENDLESS);
        due("nothing of the code before is counted", g.count(2), 1);

        of("What is compiled stays.");
        g = compiled(1, "CONST 5; RETURN");
        before = answers(g);
        g.emit(INC, 0, 1);
        due("by emit", answers(g), before);
        g.emit(LOAD, 9, 1);
        due("by a refused emit", answers(g), before);
        g.patch(0, CONST, 6, 0);
        due("by patch", answers(g), before);
        g.patch(0, CONST + 50, 6, 0);
        due("by a refused patch", answers(g), before);

        of("As the last compile set it; -1 before.");
        g = new GraphCompiler();
        due("before", g.badAt(), -1);
        g.emit(CONST, 1, 0);
        g.emit(ADD, 0, 0);
        due("before, with bad code", g.badAt(), -1);
        g.compile();
        due("set", g.badAt(), 1);
        g.patch(1, RETURN, 0, 0);
        due("mended, but not compiled", g.badAt(), 1);
        g.clear();
        due("cleared, but not compiled", g.badAt(), 1);
        g.run(0, 0, 0, 0, 1);
        due("by no run", g.badAt(), 1);
        g.compile();
        due("set again", g.badAt(), 0);
        write(g, "CONST 1; RETURN");
        due("written, but not compiled", g.badAt(), 0);
        g.compile();
        due("set to none", g.badAt(), -1);
        g.patch(0, ADD, 0, 0);
        due("spoilt, but not compiled", g.badAt(), -1);
        g.compile();
        due("spoilt and compiled", g.badAt(), 0);
        due("a run of what was compiled before", g.run(0, 0, 0, 0, 1), 1);
        due("which does not change it", g.badAt(), 0);
    }

    static void leadersAndHeights() {
        of("The leader's place of the compiled code's block; REFUSED if there is no such block.");
        GraphCompiler g = compiled(3, LOOP);
        due("the first", g.leader(0), 0);
        due("the second", g.leader(1), 2);
        due("the last", g.leader(2), 5);
        due("one more", g.leader(3), REFUSED);
        for (int block : FAR) {
            due("block " + block, g.leader(block), REFUSED);
        }
        g.clear();
        due("the compiled code's, not the written one's", g.leader(2), 5);
        rewrite(g, 1, "CONST 1; RETURN");
        due("one of the code before", g.leader(1), REFUSED);

        of("So it is with all that follows that takes a block.");
        g = compiled(3, LOOP);
        noBlock(g, 3);
        for (int block : FAR) {
            noBlock(g, block);
        }
        rewrite(g, 1, "CONST 1; RETURN");
        noBlock(g, 1);
        noBlock(g, 2);

        of("The block's number of stack cells at its start.");
        g = compiled(5, "LOAD 0; GOTO 2; LOAD 0; GOTO 4; LOAD 0; GOTO 6; LOAD 0; GOTO 8; ADD; ADD; ADD; RETURN");
        for (int block = 0; block < 5; block++) {
            due("height " + block, g.height(block), block);
        }
        due("at its start, not at its end", compiled(1, "CONST 1; CONST 1; RETURN").height(0), 0);

        of("The block that is the i-th follower, 0 or 1; REFUSED if there is none.");
        g = compiled(3, LOOP);
        due("0 of two", g.follower(0, 0), 2);
        due("1 of two", g.follower(0, 1), 1);
        due("0 of one", g.follower(1, 0), 0);
        due("1 of one", g.follower(1, 1), REFUSED);
        due("0 of none", g.follower(2, 0), REFUSED);
        due("1 of none", g.follower(2, 1), REFUSED);
        due("2 of two", g.follower(0, 2), REFUSED);
        for (int i : FAR) {
            due("follower " + i, g.follower(0, i), REFUSED);
            due("follower " + i + " of another", g.follower(1, i), REFUSED);
        }

        of("Whether the block is REACHED; false if there is no such block.");
        g = compiled(3, "LOAD 4; IFZERO 4; CONST 1; RETURN; CONST 2; RETURN");
        due("reached", g.reached(0), true);
        due("not reached", g.reached(1), false);
        due("reached, the last", g.reached(2), true);
        due("no block", g.reached(3), false);
        for (int block : FAR) {
            due("block " + block, g.reached(block), false);
        }
        rewrite(g, 1, "CONST 1; RETURN");
        due("one of the code before", g.reached(2), false);
    }

    static void noBlock(GraphCompiler g, int block) {
        due("height of block " + block, g.height(block), REFUSED);
        due("follower of block " + block, g.follower(block, 0), REFUSED);
        due("reached of block " + block, g.reached(block), false);
        due("known of block " + block, g.known(block, 4), NONE);
        due("nodes of block " + block, g.nodes(block), REFUSED);
        due("pinned of block " + block, g.pinned(block), REFUSED);
        due("saved of block " + block, g.saved(block), REFUSED);
        due("outcome of block " + block, g.outcome(block, 4), NONE);
        due("text of block " + block, g.text(block, 4, 0), REFUSED);
        due("length of text of block " + block, g.text(block, 4, -1), REFUSED);
    }

    static void knownOnes() {
        of("What the slot is KNOWN to be at the block's start; NONE if it is open, or there is no such block or slot.");
        GraphCompiler g = compiled(2, "CONST MIN; STORE 4; CONST MAX; STORE 5; CONST -1; STORE 6; CONST 3; LOAD 0; GOTO 9; STORE 4; STORE 7; "
            + "CONST 1; RETURN");
        long[] want = {NONE, NONE, NONE, NONE, MIN, MAX, -1, 0, 3, NONE};
        for (int slot = 0; slot < want.length; slot++) {
            due("slot " + slot, g.known(1, slot), want[slot]);
        }
        due("at its start, not at its end", g.known(0, 4), 0);
        due("a cell more than there are", g.known(1, 10), NONE);
        due("a cell that is there at the end only", g.known(0, 8), NONE);
        due("slot 12", g.known(1, 12), NONE);
        for (int slot : FAR) {
            due("slot " + slot, g.known(1, slot), NONE);
            due("block " + slot, g.known(slot, 7), NONE);
        }
        due("block 2", g.known(2, 7), NONE);
        // 12 slots on from slot 0 of one block lies no slot 0 of the next.
        g = compiled(3, "CONST 1; DUP; DUP; DUP; GOTO 5; STORE 0; GOTO 7; RETURN");
        due("slot 0 of the third", g.known(2, 0), 1);
        due("slot 12 of the second", g.known(1, 12), NONE);
        due("slot 24 of the first", g.known(0, 24), NONE);
        due("slot -8 of the third", g.known(2, -8), NONE);
    }

    static void numbersOfValues() {
        of("How many USED values of the block there are, CONSTs and ENTRYs not counted.");
        due("none", compiled(1, "CONST 1; RETURN").nodes(0), 0);
        due("only CONSTs and ENTRYs", compiled(1, "LOAD 0; STORE 4; CONST 9; STORE 5; CONST 1; RETURN").nodes(0), 0);
        due("not the CONST that is an operand", compiled(1, "LOAD 0; CONST 9; SUB; RETURN").nodes(0), 1);
        due("not the ENTRYs that are operands", compiled(1, "LOAD 0; LOAD 1; SUB; RETURN").nodes(0), 1);
        due("as many as there may be", compiled(1, times(23, "INC 0 1") + "GOTO 0").nodes(0), 23);

        of("How many PINNED values the block has.");
        due("none", compiled(1, "CONST 1; RETURN").pinned(0), 0);
        GraphCompiler g = compiled(2, "LOAD 0; LOAD 1; DIV; LOAD 2; DIV; LOAD 3; DIV; LOAD 0; DIV; STORE 7; GOTO 11; LOAD 0; CONST 2; DIV; RETURN");
        due("four", g.pinned(0), 4);
        due("none in the other block", g.pinned(1), 0);
        due("one, dropped", compiled(1, "LOAD 0; LOAD 1; DIV; POP; GOTO 0").pinned(0), 1);

        of("The number of values of ops 3 .. 12 and 20 that the block's instructions ask for, less those in nodes.");
        due("nothing asked for", compiled(1, "CONST 1; RETURN").saved(0), 0);
        due("all asked for are there", compiled(1, times(23, "INC 0 1") + "GOTO 0").saved(0), 0);
        for (int op = CONST; op <= INC; op++) {
            if (op < IFZERO || op == INC) {
                // Nothing is made of CONSTs, nor by an INC by 0, so all that is asked for is saved.
                GraphCompiler one = compiled(1, "CONST 1; CONST 1; " + NAMES.get(op) + "; CONST 1; RETURN");
                due("asked for by " + NAMES.get(op), one.saved(0), op >= ADD && op <= NEG || op == INC ? 1 : 0);
            }
        }
        due("INC of a known one", compiled(1, "INC 4 1; GOTO 0").saved(0), 0);
        due("INC of a known one, once", compiled(1, "INC 4 1; CONST 1; RETURN").saved(0), 1);
        due("INC that is there", compiled(1, "INC 0 1; CONST 1; RETURN").saved(0), 0);
        due("INC by nothing", compiled(1, "INC 0 0; CONST 1; RETURN").saved(0), 1);
        due("IFZERO asks for nothing", compiled(2, "LOAD 0; IFZERO 2; GOTO 2").saved(0), 0);
        due("IFLESS asks for nothing", compiled(2, "LOAD 0; LOAD 1; IFLESS 3; GOTO 3").saved(0), 0);
        due("GOTO asks for nothing", compiled(1, "GOTO 0").saved(0), 0);
        due("all saved", compiled(1, times(22, "INC 4 1") + "CONST 1; RETURN").saved(0), 22);
        g = compiled(2, "INC 4 1; GOTO 2; LOAD 0; NEG; NEG; RETURN");
        due("of this block alone", g.saved(0), 1);
        due("of the other block alone", g.saved(1), 2);
    }

    static void outcomes() {
        of("What the slot holds at the block's end, if it is a CONST; else NONE, also if there is no such block or slot.");
        GraphCompiler g = compiled(2, "CONST MIN; STORE 4; CONST MAX; STORE 5; CONST -1; STORE 0; LOAD 1; STORE 6; CONST 8; LOAD 1; GOTO 11; "
            + "POP; RETURN");
        long[] want = {-1, NONE, NONE, NONE, MIN, MAX, NONE, 0, 8, NONE};
        for (int slot = 0; slot < want.length; slot++) {
            due("slot " + slot, g.outcome(0, slot), want[slot]);
        }
        due("a cell more than there are", g.outcome(0, 10), NONE);
        due("a cell that is there at the start only", g.outcome(1, 8), NONE);
        due("slot 12", g.outcome(0, 12), NONE);
        for (int slot : FAR) {
            due("slot " + slot, g.outcome(0, slot), NONE);
            due("block " + slot, g.outcome(slot, 4), NONE);
        }
        due("block 2", g.outcome(2, 4), NONE);
        due("a made one", compiled(1, "INC 0 1; GOTO 0").outcome(0, 0), NONE);
        due("a quotient by 0", compiled(1, "CONST 1; CONST 0; DIV; STORE 0; GOTO 0").outcome(0, 0), NONE);
        g = compiled(1, "LOAD 0; LOAD 1; CONST 3; CONST 4; RETURN");
        due("what RETURN took", g.outcome(0, 11), NONE);
        due("what it left", g.outcome(0, 10), 3);
    }

    static void characters() {
        of("Character i, from 0, of the TEXT of what the slot holds at the block's end, for i = -1 its length.");
        GraphCompiler g = compiled(1, "LOAD 0; CONST -25; SUB; STORE 4; CONST 0; RETURN");
        String want = "(e0--25)";
        due("length", g.text(0, 4, -1), want.length());
        for (int i = 0; i < want.length(); i++) {
            due("character " + i, g.text(0, 4, i), want.charAt(i));
        }
        due("length of one", g.text(0, 5, -1), 1);
        due("the one", g.text(0, 5, 0), '0');
        due("at its end, not at its start", textOf(compiled(1, "INC 4 6; CONST 0; RETURN"), 0, 4), "6");

        of("REFUSED if there is no such block, slot or character.");
        due("the character behind the last", g.text(0, 4, 8), REFUSED);
        due("the second of one", g.text(0, 5, 1), REFUSED);
        int[] none = {-2, -3, 60, 61, MIN, MAX};
        for (int i : none) {
            due("character " + i, g.text(0, 4, i), REFUSED);
        }
        due("slot 8 after the RETURN", g.text(0, 8, -1), REFUSED);
        due("slot 12", g.text(0, 12, -1), REFUSED);
        due("block 1", g.text(1, 4, -1), REFUSED);
        for (int far : FAR) {
            due("slot " + far, g.text(0, far, -1), REFUSED);
            due("slot " + far + ", character 0", g.text(0, far, 0), REFUSED);
            due("block " + far, g.text(far, 4, -1), REFUSED);
            due("block " + far + ", character 0", g.text(far, 4, 0), REFUSED);
        }
        g = compiled(2, "CONST 5; GOTO 2; POP; CONST 1; RETURN");
        due("a cell there is", g.text(0, 8, 0), '5');
        due("a cell more", g.text(0, 9, -1), REFUSED);
        due("a cell there was at the start", g.text(1, 8, -1), REFUSED);
    }

    static void texts() {
        of("The TEXT of a CONST is its number in decimal");
        int[] some = {0, 1, -1, 9, 10, -10, 99, 100, 101, 1000, 12345, -90807, 999999999, 1000000000, -1000000000, 2000000001, MAX, MIN, MIN + 1};
        for (int number : some) {
            due("CONST", made("CONST " + number), Integer.toString(number));
            due("CONST inside", made("LOAD 1; CONST " + number + "; SUB"), number == 0 ? "e1" : "(e1-" + number + ")");
        }

        of("of an ENTRY \"e\" and the slot");
        GraphCompiler g = compiled(3, "LOAD 0; LOAD 0; LOAD 0; LOAD 4; IFZERO 6; GOTO 5; GOTO 6");
        due("the one not reached", g.reached(1), false);
        for (int slot = 0; slot < 11; slot++) {
            due("ENTRY " + slot, textOf(g, 1, slot), "e" + slot);
        }
        due("ENTRY 11", textOf(compiled(2, "LOAD 0; LOAD 0; LOAD 0; LOAD 0; GOTO 5; GOTO 5"), 1, 11), "e11");

        of("of NEG \"(-\" then x's TEXT then \")\"");
        due("of an ENTRY", made("LOAD 0; NEG"), "(-e0)");
        due("of a made one", made("LOAD 0; CONST -5; ADD; NEG"), "(-(e0+-5))");
        due("inside", made("LOAD 0; NEG; LOAD 1; NEG; DIV; NEG"), "(-((-e0)/(-e1)))");

        of("of any other \"(\" then x's, the sign, y's, \")\"; the signs for 3 .. 11 are + - * / & | ^ < >.");
        String signs = "+-*/&|^<>";
        for (int op = ADD; op <= SHR; op++) {
            char sign = signs.charAt(op - ADD);
            due(NAMES.get(op), made("LOAD 0", "LOAD 1", op), "(e0" + sign + "e1)");
            due(NAMES.get(op) + " inside", made("LOAD 0; NEG", "LOAD 1; NEG", op), "((-e0)" + sign + "(-e1))");
        }
        due("nested", made("LOAD 0; LOAD 1; LOAD 2; LOAD 3; SUB; SUB; SUB"), "(e0-(e1-(e2-e3)))");
        due("nested the other way", made("LOAD 0; LOAD 1; SUB; LOAD 2; SUB; LOAD 3; SUB"), "(((e0-e1)-e2)-e3)");
        due("INC", textOf(compiled(1, "INC 2 7; CONST 0; RETURN"), 0, 2), "(e2+7)");
    }

    static void longTexts() {
        of("If it would have more than 60 characters it is the first 60 of them.");
        // Eight SUBs around e0, with one number that fills up: whole TEXTs of 55 to 64 characters.
        for (int digits = 1; digits <= 10; digits++) {
            String number = "1000000000".substring(0, digits);
            String whole = "((((((((e0-" + number + ")" + "-1234)".repeat(7);
            GraphCompiler g = compiled(1, "LOAD 0; CONST " + number + "; SUB; " + times(7, "CONST 1234; SUB") + "STORE 4; CONST 0; RETURN");
            cutAt60("with " + digits + " digits", g, 0, 4, whole);
        }
        // Here the number moves the cut over signs, brackets and a NEG.
        for (int digits = 1; digits <= 10; digits++) {
            String number = "2147483647".substring(0, digits);
            String inner = "(((((e0-" + number + ")-33333333)-44444444)-55555555)-66666666)";
            GraphCompiler g = compiled(1, "LOAD 0; CONST " + number + "; SUB; CONST 33333333; SUB; CONST 44444444; SUB; CONST 55555555; SUB; "
                + "CONST 66666666; SUB; DUP; NEG; LOAD 1; SHL; SHL; STORE 4; CONST 0; RETURN");
            cutAt60("with " + digits + " digits in front", g, 0, 4, "(" + inner + "<((-" + inner + ")<e1))");
        }
        // Here it lies before and inside the number of an ENTRY.
        String cells = "LOAD 0; DUP; DUP; DUP; GOTO 5; SUB; SUB; SUB; DUP; MUL; DUP; ";
        String square = "((e8-(e9-(e10-e11)))*(e8-(e9-(e10-e11))))";
        GraphCompiler g = compiled(2, cells + "MUL; STORE 4; CONST 0; RETURN");
        cutAt60("inside an ENTRY", g, 1, 4, "(" + square + "*" + square + ")");
        g = compiled(2, cells + "NEG; SWAP; SUB; STORE 4; CONST 0; RETURN");
        cutAt60("inside an ENTRY behind a NEG", g, 1, 4, "((-" + square + ")-" + square + ")");
        largeTexts();
    }

    static void largeTexts() {
        // Ten squares one over the other: 1024 times e0.
        String whole = "e0";
        for (int i = 0; i < 10; i++) {
            whole = "(" + whole + "*" + whole + ")";
        }
        cutAt60("squares", compiled(1, "LOAD 0; " + times(10, "DUP; MUL") + "STORE 4; CONST 0; RETURN"), 0, 4, whole);
        whole = "e0";
        for (int i = 0; i < 22; i++) {
            whole = "(" + whole + "+-7)";
        }
        cutAt60("a deep one", compiled(1, times(22, "INC 0 -7") + "CONST 1; RETURN"), 0, 0, whole);
        whole = "e0";
        for (int i = 0; i < 6; i++) {
            whole = "(-100000000-" + whole + ")";
        }
        cutAt60("one that opens to the right", compiled(1, "LOAD 0; " + times(6, "CONST -100000000; SWAP; SUB") + "STORE 4; CONST 0; RETURN"), 0, 4, whole);
    }

    static void cutAt60(String what, GraphCompiler g, int block, int slot, String whole) {
        int length = Math.min(60, whole.length());
        due(what + ": length", g.text(block, slot, -1), length);
        due(what + ": TEXT", textOf(g, block, slot), whole.substring(0, length));
        due(what + ": the last character", g.text(block, slot, length - 1), whole.charAt(length - 1));
        due(what + ": one behind it", g.text(block, slot, length), REFUSED);
    }

    static void runs() {
        of("Runs the compiled code with locals 0 .. 3 = a, b, c, d, the others 0, from block 0");
        for (int local = 0; local < 8; local++) {
            long[] want = {MIN, -1, 7, MAX, 0, 0, 0, 0};
            GraphCompiler g = compiled(1, "LOAD " + local + "; INC " + local + " 5; STORE 7; INC 6 1; LOAD 7; RETURN");
            due("local " + local, g.run(MIN, -1, 7, MAX, 1), want[local]);
            due("local " + local + " in a second run", g.run(MIN, -1, 7, MAX, 1), want[local]);
        }
        GraphCompiler g = compiled(1, "CONST 1; CONST 2; LOAD 0; LOAD 1; DIV; RETURN");
        due("a TRAP with a stack of four", g.run(1, 0, 0, 0, 1), TRAP);
        due("leaves nothing to the next run", g.run(9, 3, 0, 0, 1), 3);
        g.clear();
        due("the compiled code, not the written one", g.run(9, 3, 0, 0, 1), 3);

        of("entering at most fuel blocks (one entered again counts again");
        g = compiled(3, LOOP);
        due("three blocks twice", g.run(2, 1, 0, 0, 6), 7);
        due("all of them counted", g.count(3), 6);
        due("one less", g.run(2, 1, 0, 0, 5), TIRED);
        due("counted", g.count(3), 5);
        g = compiled(1, ENDLESS);
        int[] fuels = {1, 2, 3, 100, 499, 500};
        for (int fuel : fuels) {
            due("endless with " + fuel, g.run(0, 0, 0, 0, fuel), TIRED);
            due("endless with " + fuel + " entered", g.count(3), fuel);
        }

        of("fuel below 1 counts as 1, above 500 as 500)");
        int[] low = {0, -1, -500, MIN};
        int[] high = {501, 502, 1000, MAX};
        for (int fuel : low) {
            due("fuel " + fuel, g.run(0, 0, 0, 0, fuel), TIRED);
            due("fuel " + fuel + " entered", g.count(3), 1);
            due("fuel " + fuel + " is enough for one", answerWith("CONST 3; RETURN", 0, fuel), 3);
            due("fuel " + fuel + " is not enough for two", answerWith("GOTO 1; CONST 3; RETURN", 0, fuel), TIRED);
        }
        for (int fuel : high) {
            due("fuel " + fuel, g.run(0, 0, 0, 0, fuel), TIRED);
            due("fuel " + fuel + " entered", g.count(3), 500);
            due("fuel " + fuel + " is enough for 500", answerWith(LOOP, 249, fuel), 747);
            due("fuel " + fuel + " is not enough for 502", answerWith(LOOP, 250, fuel), TIRED);
        }
        due("499 for 500", answerWith(LOOP, 249, 499), TIRED);
        due("500 for 500", answerWith(LOOP, 249, 500), 747);
        due("500 for 501", answerWith("GOTO 1; " + "LOAD 0; IFZERO 5; INC 0 -1; GOTO 1; CONST 6; RETURN", 249, 500), TIRED);
        due("500 for 499", answerWith("GOTO 1; " + "LOAD 0; IFZERO 5; INC 0 -1; GOTO 1; CONST 6; RETURN", 248, 500), 6);
    }

    static long answerWith(String code, int a, int fuel) {
        GraphCompiler g = written(code);
        g.compile();
        return g.run(a, 0, 0, 0, fuel);
    }

    static void endsOfRuns() {
        of("the returned int; TRAP; or TIRED if one more block would be entered.");
        int[] some = {0, -1, -2, MIN, MAX};
        for (int x : some) {
            due("RETURN of " + x, answerWith("LOAD 0; RETURN", x, 1), x);
        }
        GraphCompiler g = compiled(2, "CONST 1; GOTO 2; LOAD 0; DIV; RETURN");
        due("the last block that may be entered returns", g.run(1, 0, 0, 0, 2), 1);
        due("the last block that may be entered TRAPs", g.run(0, 0, 0, 0, 2), TRAP);
        due("entered by the TRAP", g.count(3), 2);
        due("one more would be entered", g.run(1, 0, 0, 0, 1), TIRED);
        due("one more would be entered, and TRAP", g.run(0, 0, 0, 0, 1), TIRED);
        due("entered", g.count(3), 1);
        due("a TRAP in the first", answerWith("CONST 1; LOAD 0; DIV; RETURN", 0, 1), TRAP);
        due("by going on", answerWith("INC 0 1; INC 0 1; LOAD 0; IFZERO 1; LOAD 0; RETURN", 5, 1), TIRED);
        due("by going on, as far as it goes", answerWith("INC 0 1; INC 0 1; LOAD 0; IFZERO 1; LOAD 0; RETURN", 5, 3), 7);
        due("by IFZERO", answerWith("LOAD 0; IFZERO 2; CONST 1; RETURN", 0, 1), TIRED);
        due("by IFLESS", answerWith("LOAD 0; LOAD 1; IFLESS 3; CONST 1; RETURN", 0, 1), TIRED);

        of("Nothing compiled: NONE.");
        due("a new one", new GraphCompiler().run(0, 0, 0, 0, 500), NONE);
        g = written("CONST 1; RETURN");
        due("written alone", g.run(0, 0, 0, 0, 500), NONE);
        g = written("CONST 1; ADD");
        g.compile();
        due("BAD alone", g.run(0, 0, 0, 0, 500), NONE);
        due("which enters nothing", g.count(3), 0);
        g.patch(1, RETURN, 0, 0);
        g.compile();
        due("compiled", g.run(0, 0, 0, 0, 500), 1);
        g.clear();
        g.compile();
        due("compiled once is compiled", g.run(0, 0, 0, 0, 500), 1);
    }

    static void counts() {
        of("0: instructions in the code");
        GraphCompiler g = new GraphCompiler();
        due("none", g.count(0), 0);
        write(g, times(24, "INC 0 1"));
        due("24", g.count(0), 24);
        g.emit(INC, 0, 1);
        due("24 and no more", g.count(0), 24);
        g.clear();
        due("none again", g.count(0), 0);

        of("1: blocks compiled (0 if nothing is)");
        g = written(LOOP);
        due("not yet", g.count(1), 0);
        g.compile();
        due("three", g.count(1), 3);
        g.patch(0, ADD, 0, 0);
        g.compile();
        due("three stay", g.count(1), 3);

        of("2: REACHED ones");
        due("nothing compiled", written(LOOP).count(2), 0);
        due("all", g.count(2), 3);
        due("one of one", compiled(1, ENDLESS).count(2), 1);
        due("two of three", compiled(3, "LOAD 4; IFZERO 4; CONST 1; RETURN; CONST 2; RETURN").count(2), 2);
        rewrite(g, 1, ENDLESS);
        due("those of the last compile", g.count(2), 1);

        of("3: blocks entered by the last run (0 before).");
        g = compiled(3, LOOP);
        due("before", g.count(3), 0);
        g.run(2, 0, 0, 0, 500);
        due("after a run", g.count(3), 6);
        g.run(0, 0, 0, 0, 500);
        due("the last run's alone", g.count(3), 2);
        g.run(1, 0, 0, 0, 3);
        due("after a TIRED one", g.count(3), 3);
        g.clear();
        due("after clear", g.count(3), 3);
        g.compile();
        due("after a BAD compile", g.count(3), 3);
        write(g, "LOAD 0; LOAD 1; DIV; RETURN");
        g.compile();
        due("after a compile", g.count(3), 3);
        g.run(0, 0, 0, 0, 500);
        due("after a TRAP", g.count(3), 1);

        of("Else REFUSED.");
        int[] none = {-1, 4, 5, MIN, MAX};
        for (int what : none) {
            due("count " + what, g.count(what), REFUSED);
            due("count " + what + " of a new one", new GraphCompiler().count(what), REFUSED);
        }
    }

    public static void main(String[] args) {
        theObject();
        constants();
        newOnes();
        emits();
        patches();
        clears();
        compiles();
        leadersAndHeights();
        knownOnes();
        numbersOfValues();
        outcomes();
        characters();
        texts();
        longTexts();
        runs();
        endsOfRuns();
        counts();
        end();
    }
}
