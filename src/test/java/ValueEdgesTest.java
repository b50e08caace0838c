/** The edges that the document names in its terms of VALUES, MAKING, THE OUTCOME and KNOWN: a test for each sentence, worked out by hand. */
public final class ValueEdgesTest extends Trial {
    static final int[] EITHER_WAY = {ADD, MUL, AND, OR, XOR};
    static final int[] ONE_WAY = {SUB, DIV, SHL, SHR};

    static char sign(int op) {
        return SIGNS.charAt(op - ADD);
    }

    static void slots() {
        of("Its SLOTS are 0 .. 7, the locals, and 8, 9, .., its stack cells from the bottom up.");
        GraphCompiler g = compiled(2, "LOAD 0; CONST 7; LOAD 1; CONST 9; GOTO 5; GOTO 5");
        String[] ends = {"e0", "e1", "e2", "e3", "0", "0", "0", "0", "e0", "7", "e1", "9"};
        String[] later = {"e0", "e1", "e2", "e3", "0", "0", "0", "0", "e8", "7", "e10", "9"};
        for (int slot = 0; slot < 12; slot++) {
            due("slot " + slot + " at the end of block 0", textOf(g, 0, slot), ends[slot]);
            due("slot " + slot + " in block 1", textOf(g, 1, slot), later[slot]);
        }
        due("slot 12", textOf(g, 1, 12), "REFUSED");
        due("the run takes them from the top", answer("LOAD 0; CONST 7; LOAD 1; GOTO 4; SUB; SUB; RETURN", 100, 5), 98);

        of("At its start each slot holds a value: CONST c if the slot is KNOWN there to be c, else the value ENTRY of that slot.");
        g = compiled(2, "CONST -3; STORE 4; LOAD 0; STORE 5; GOTO 5; INC 4 1; INC 5 1; GOTO 5");
        due("known at first, open by the loop", textOf(g, 1, 4), "(e4+1)");
        g = compiled(2, "CONST -3; STORE 4; LOAD 0; STORE 5; GOTO 5; LOAD 4; LOAD 5; ADD; STORE 6; CONST 0; RETURN");
        due("a CONST and an ENTRY", textOf(g, 1, 6), "(e5+-3)");
        due("the CONST is there", g.outcome(1, 4), -3);
        due("the ENTRY of its own slot, not of where it came from", textOf(g, 1, 5), "e5");

        of("CONST makes CONST a");
        due("the least", made("CONST MIN"), "-2147483648");
        due("the greatest", compiled(1, "CONST MAX; STORE 0; GOTO 0").outcome(0, 0), MAX);

        of("INC makes ADD of the local and CONST b");
        due("of an ENTRY", textOf(compiled(1, "INC 0 5; CONST 0; RETURN"), 0, 0), "(e0+5)");
        due("twice", textOf(compiled(1, "INC 0 5; INC 0 5; CONST 0; RETURN"), 0, 0), "((e0+5)+5)");
        due("by 0", textOf(compiled(1, "INC 0 0; CONST 0; RETURN"), 0, 0), "e0");
        due("by the least", textOf(compiled(1, "INC 3 MIN; CONST 0; RETURN"), 0, 3), "(e3+-2147483648)");
        due("of a CONST", textOf(compiled(1, "INC 4 5; INC 4 -7; CONST 0; RETURN"), 0, 4), "-2");
        due("SAME as an ADD", compiled(1, "CONST 5; LOAD 0; ADD; STORE 1; INC 0 5; CONST 0; RETURN").nodes(0), 1);

        of("3 .. 12 make one of their op and operands, by MAKING");
        for (int op = ADD; op <= SHR; op++) {
            due(NAMES.get(op), made("LOAD 2", "LOAD 3", op), "(e2" + sign(op) + "e3)");
        }
        due("NEG", made("LOAD 2; NEG"), "(-e2)");

        of("the others only move values");
        g = compiled(1, "LOAD 0; DUP; STORE 4; LOAD 1; SWAP; POP; DUP; POP; STORE 5; CONST 1; RETURN");
        due("no values are made", g.nodes(0), 0);
        due("none are asked for", g.saved(0), 0);
        due("what DUP left", textOf(g, 0, 4), "e0");
        due("what SWAP and POP left", textOf(g, 0, 5), "e1");
        due("POP leaves all below", made("LOAD 0; LOAD 1; LOAD 2; POP; SUB"), "(e0-e1)");
    }

    /** How many values there are after both codes have left one. */
    static int nodesOf(String first, String second) {
        return compiled(1, first + "; STORE 6; " + second + "; STORE 7; CONST 0; RETURN").nodes(0);
    }

    static void sameOnes() {
        of("Two CONSTs are the SAME if their numbers are");
        due("5 and 2 + 3", nodesOf("LOAD 0; CONST 5; SUB", "LOAD 0; CONST 2; CONST 3; ADD; SUB"), 1);
        due("5 and a local that is known to be 5", nodesOf("INC 4 5; LOAD 0; CONST 5; SUB", "LOAD 0; LOAD 4; SUB"), 1);
        due("5 and -5", nodesOf("LOAD 0; CONST 5; SUB", "LOAD 0; CONST -5; SUB"), 2);
        due("the least and the greatest", nodesOf("LOAD 0; CONST MIN; SUB", "LOAD 0; CONST MAX; SUB"), 2);

        of("two ENTRYs if their slots are");
        due("one slot", made("LOAD 0; LOAD 0; SUB"), "0");
        due("two slots", made("LOAD 0; LOAD 1; SUB"), "(e0-e1)");
        due("one slot by way of another", made("LOAD 0; STORE 1; LOAD 1; LOAD 0; SUB"), "0");
        // Slot 8 is what local 0 is, but it is another slot.
        GraphCompiler g = compiled(2, "LOAD 0; GOTO 2; LOAD 0; SUB; STORE 7; CONST 0; RETURN");
        due("a cell and a local", textOf(g, 1, 7), "(e8-e0)");
        due("a CONST is no ENTRY of its number", nodesOf("LOAD 1; LOAD 2; SUB", "LOAD 1; CONST 2; SUB"), 2);

        of("two others if they have the same op and SAME operands in the same order");
        for (int op = ADD; op <= SHR; op++) {
            String one = "LOAD 0; LOAD 1; " + NAMES.get(op);
            due(NAMES.get(op) + " twice", nodesOf(one, one), 1);
            due(NAMES.get(op) + " with another operand", nodesOf(one, "LOAD 0; LOAD 2; " + NAMES.get(op)), 2);
            for (int other = ADD; other <= SHR; other++) {
                due(NAMES.get(op) + " and " + NAMES.get(other), nodesOf(one, "LOAD 0; LOAD 1; " + NAMES.get(other)), op == other ? 1 : 2);
            }
        }
        due("NEG twice", nodesOf("LOAD 0; NEG", "LOAD 0; NEG"), 1);
        due("NEG of another", nodesOf("LOAD 0; NEG", "LOAD 1; NEG"), 2);
        due("operands that are SAME by their operands", nodesOf("LOAD 0; NEG; LOAD 1; SHL", "LOAD 0; NEG; LOAD 1; SHL"), 2);

        of("or, for ADD, MUL, AND, OR, XOR, in the other order.");
        for (int op : EITHER_WAY) {
            String name = NAMES.get(op);
            due(name + " in the other order", nodesOf("LOAD 0; LOAD 1; " + name, "LOAD 1; LOAD 0; " + name), 1);
            due(name + " of CONST in the other order", nodesOf("LOAD 0; CONST 6; " + name, "CONST 6; LOAD 0; " + name), 1);
            due(name + " of made ones in the other order", nodesOf("LOAD 0; NEG; LOAD 1; " + name, "LOAD 1; LOAD 0; NEG; " + name), 2);
        }
        for (int op : ONE_WAY) {
            String name = NAMES.get(op);
            due(name + " in the other order", nodesOf("LOAD 0; LOAD 1; " + name, "LOAD 1; LOAD 0; " + name), 2);
            due(name + " of CONST in the other order", nodesOf("LOAD 0; CONST 6; " + name, "CONST 6; LOAD 0; " + name), 2);
        }
    }

    static void foldingAndOrder() {
        of("x and y are CONSTs (and it is not DIV by 0): the CONST of the result.");
        long[][] sums = {{ADD, 12, 10, 22}, {SUB, 12, 10, 2}, {MUL, 12, 10, 120}, {DIV, 12, 10, 1}, {AND, 12, 10, 8}, {OR, 12, 10, 14},
            {XOR, 12, 10, 6}, {SHL, 12, 2, 48}, {SHR, 12, 2, 3}};
        for (long[] sum : sums) {
            due(NAMES.get((int) sum[0]), made("CONST " + sum[1], "CONST " + sum[2], (int) sum[0]), Long.toString(sum[3]));
            GraphCompiler g = compiled(1, "CONST " + sum[1] + "; CONST " + sum[2] + "; " + NAMES.get((int) sum[0]) + "; RETURN");
            due(NAMES.get((int) sum[0]) + " makes nothing else", g.nodes(0), 0);
        }
        due("NEG", made("CONST 12; NEG"), "-12");
        due("of known locals", made("INC 4 3; INC 5 4; LOAD 4; LOAD 5; MUL"), "12");
        int[] some = {0, 1, 5, -1, MIN, MAX};
        for (int x : some) {
            due(x + " by 0", made("CONST " + x, "CONST 0", DIV), "(" + x + "/0)");
            due(x + " by a local known to be 0", made("CONST " + x, "LOAD 4", DIV), "(" + x + "/0)");
        }

        of("the op is ADD, MUL, AND, OR or XOR and x is a CONST: x and y change places, for all that follows.");
        for (int op : EITHER_WAY) {
            due("CONST " + NAMES.get(op), made("CONST 6", "LOAD 0", op), "(e0" + sign(op) + "6)");
            due("not two others: " + NAMES.get(op), made("LOAD 1", "LOAD 0", op), "(e1" + sign(op) + "e0)");
        }
        due("0 ADD", made("CONST 0", "LOAD 0", ADD), "e0");
        due("0 MUL", made("CONST 0", "LOAD 0", MUL), "0");
        due("1 MUL", made("CONST 1", "LOAD 0", MUL), "e0");
        due("0 AND", made("CONST 0", "LOAD 0", AND), "0");
        due("0 OR", made("CONST 0", "LOAD 0", OR), "e0");
        due("0 XOR", made("CONST 0", "LOAD 0", XOR), "e0");
        for (int op : ONE_WAY) {
            due("CONST " + NAMES.get(op), made("CONST 6", "LOAD 0", op), "(6" + sign(op) + "e0)");
            due("0 " + NAMES.get(op), made("CONST 0", "LOAD 0", op), "(0" + sign(op) + "e0)");
            due("1 " + NAMES.get(op), made("CONST 1", "LOAD 0", op), "(1" + sign(op) + "e0)");
        }
    }

    static void shortcuts() {
        of("y is CONST 0: ADD, SUB, OR, XOR, SHL, SHR give x; MUL and AND give CONST 0.");
        String[] byZero = {"e0", "e0", "0", "(e0/0)", "0", "e0", "e0", "e0", "e0"};
        String[] byNegNothing = {"(-e0)", "(-e0)", "0", "((-e0)/0)", "0", "(-e0)", "(-e0)", "(-e0)", "(-e0)"};
        for (int op = ADD; op <= SHR; op++) {
            due(NAMES.get(op) + " by 0", made("LOAD 0", "CONST 0", op), byZero[op - ADD]);
            due(NAMES.get(op) + " by a local known to be 0", made("LOAD 0", "LOAD 6", op), byZero[op - ADD]);
            due(NAMES.get(op) + " of a made one by 0", made("LOAD 0; NEG", "CONST 0", op), byNegNothing[op - ADD]);
        }
        nothingGivenFor(-1);
        nothingGivenFor(2);
        nothingGivenFor(32);
        nothingGivenFor(MIN);

        of("y is CONST 1: MUL and DIV give x.");
        for (int op = ADD; op <= SHR; op++) {
            String want = op == MUL || op == DIV ? "e0" : "(e0" + sign(op) + "1)";
            due(NAMES.get(op) + " by 1", made("LOAD 0", "CONST 1", op), want);
        }
        due("DIV by 1 is not pinned", compiled(1, "LOAD 0; CONST 1; DIV; RETURN").pinned(0), 0);

        of("x and y are the SAME: SUB and XOR give CONST 0; AND and OR give x.");
        String[] itself = {"(v+v)", "0", "(v*v)", "(v/v)", "v", "v", "0", "(v<v)", "(v>v)"};
        for (int op = ADD; op <= SHR; op++) {
            due(NAMES.get(op) + " of an ENTRY", made("LOAD 0", "LOAD 0", op), itself[op - ADD].replace("v", "e0"));
            due(NAMES.get(op) + " by DUP", made("LOAD 3; DUP; " + NAMES.get(op)), itself[op - ADD].replace("v", "e3"));
            due(NAMES.get(op) + " of made ones", made("LOAD 0; LOAD 1; ADD", "LOAD 1; LOAD 0; ADD", op),
                itself[op - ADD].replace("v", "(e0+e1)"));
        }
        due("of quotients by 0", made("CONST 3; CONST 0; DIV; CONST 3; LOAD 4; DIV; SUB"), "0");
        due("0 by 0 is not among them", made("CONST 0", "CONST 0", DIV), "(0/0)");

        of("NEG of a NEG gives that one's operand.");
        due("twice", made("LOAD 0; NEG; NEG"), "e0");
        due("three times", made("LOAD 0; NEG; NEG; NEG"), "(-e0)");
        due("four times", made("LOAD 0; NEG; NEG; NEG; NEG"), "e0");
        due("of a made one", made("LOAD 0; LOAD 1; SUB; NEG; NEG"), "(e0-e1)");
        due("of another", made("LOAD 0; LOAD 1; SUB; NEG"), "(-(e0-e1))");
        due("0 less x is no NEG", made("CONST 0; LOAD 0; SUB; NEG"), "(-(0-e0))");
    }

    static void nothingGivenFor(int y) {
        for (int op = ADD; op <= SHR; op++) {
            due(NAMES.get(op) + " by " + y, made("LOAD 0", "CONST " + y, op), "(e0" + sign(op) + y + ")");
        }
    }

    static void madeBefore() {
        of("a value SAME as it was made before in this block (in step 6): that one.");
        GraphCompiler g = compiled(1, "LOAD 1; LOAD 0; ADD; STORE 4; LOAD 0; LOAD 1; ADD; STORE 5; CONST 0; RETURN");
        due("the first one's order", textOf(g, 0, 4), "(e1+e0)");
        due("is the second one's too", textOf(g, 0, 5), "(e1+e0)");
        due("one value", g.nodes(0), 1);
        due("one saved", g.saved(0), 1);
        g = compiled(1, "LOAD 0; NEG; POP; LOAD 0; NEG; RETURN");
        due("one that was dropped is there still", g.nodes(0), 1);
        g = compiled(1, "LOAD 0; LOAD 1; SUB; POP; LOAD 0; LOAD 1; SUB; LOAD 0; LOAD 1; SUB; XOR; RETURN");
        due("SAME with a dropped one", g.saved(0), 4);
        g = compiled(1, "LOAD 0; LOAD 1; DIV; LOAD 0; LOAD 1; DIV; ADD; RETURN");
        due("a DIV", g.pinned(0), 1);
        g = compiled(1, "INC 0 1; LOAD 0; CONST 1; ADD; RETURN");
        due("a local that has grown is another value", g.nodes(0), 2);
        g = compiled(2, "LOAD 0; NEG; STORE 1; GOTO 4; LOAD 0; NEG; LOAD 1; SUB; RETURN");
        due("one of another block is not there", g.nodes(1), 2);

        of("a new value of that op and operands.");
        g = compiled(1, times(22, "INC 0 1") + "LOAD 0; RETURN");
        due("22 new values, one of the other", g.nodes(0), 22);
        g = compiled(1, times(23, "INC 0 3") + "GOTO 0");
        due("23 new values", g.nodes(0), 23);
        due("none saved", g.saved(0), 0);
        due("and they are right", answer(times(22, "INC 0 3") + "LOAD 0; RETURN", 4), 70);
    }

    static void outcomes() {
        of("the values that its slots hold at its end (after its last instruction took what it takes)");
        GraphCompiler g = compiled(2, "LOAD 0; NEG; LOAD 1; IFZERO 4; RETURN");
        due("under what IFZERO took", textOf(g, 0, 8), "(-e0)");
        due("what IFZERO took", textOf(g, 0, 9), "REFUSED");
        g = compiled(2, "LOAD 0; NEG; LOAD 1; LOAD 2; IFLESS 5; RETURN");
        due("under what IFLESS took", textOf(g, 0, 8), "(-e0)");
        due("the first that IFLESS took", textOf(g, 0, 9), "REFUSED");
        g = compiled(1, "LOAD 0; LOAD 1; CONST 7; RETURN");
        due("under what RETURN took", textOf(g, 0, 9), "e1");
        due("what RETURN took", g.outcome(0, 10), NONE);
        g = compiled(2, "LOAD 0; CONST 7; GOTO 3; ADD; RETURN");
        due("GOTO takes nothing", g.outcome(0, 9), 7);
        g = compiled(2, "CONST 7; INC 0 1; GOTO 1");
        due("a block that a leader ends takes nothing", g.outcome(0, 8), 7);

        of("and those that a last 16, 17 or 19 takes.");
        due("IFZERO", compiled(2, "LOAD 0; NEG; IFZERO 3; CONST 0; RETURN").nodes(0), 1);
        due("IFLESS, x", compiled(2, "LOAD 0; NEG; LOAD 1; IFLESS 4; CONST 0; RETURN").nodes(0), 1);
        due("IFLESS, y", compiled(2, "LOAD 1; LOAD 0; NEG; IFLESS 4; CONST 0; RETURN").nodes(0), 1);
        due("IFLESS, both", compiled(2, "LOAD 1; NEG; LOAD 0; NEG; IFLESS 5; CONST 0; RETURN").nodes(0), 2);
        due("RETURN", compiled(1, "LOAD 0; NEG; RETURN").nodes(0), 1);
        due("POP is none of them", compiled(1, "LOAD 0; NEG; POP; GOTO 0").nodes(0), 0);
        // Block 1 makes what IFLESS takes in block 0, and drops it.
        g = compiled(2, "LOAD 0; NEG; LOAD 1; NEG; IFLESS 5; LOAD 0; NEG; POP; LOAD 1; NEG; POP; GOTO 5");
        due("of block 0", g.nodes(0), 2);
        due("of block 0 alone", g.nodes(1), 0);

        of("A DIV made in step 6 whose y is not a CONST other than 0 is PINNED.");
        pinnedBy("LOAD 0", "LOAD 1", 1);
        pinnedBy("LOAD 0", "LOAD 0", 1);
        pinnedBy("LOAD 0", "LOAD 1; NEG", 1);
        pinnedBy("LOAD 0", "CONST 0", 1);
        pinnedBy("LOAD 0", "LOAD 4", 1);
        pinnedBy("CONST 0", "CONST 0", 1);
        pinnedBy("CONST 9", "CONST 0", 1);
        pinnedBy("CONST 9", "LOAD 0", 1);
        int[] others = {1, 2, -1, MIN, MAX};
        for (int y : others) {
            pinnedBy("LOAD 0", "CONST " + y, 0);
            pinnedBy("CONST 9", "CONST " + y, 0);
        }
        due("another op", compiled(1, "LOAD 0; LOAD 1; SHR; RETURN").pinned(0), 0);
        due("two of them", compiled(1, "LOAD 0; LOAD 1; DIV; LOAD 1; LOAD 0; DIV; ADD; RETURN").pinned(0), 2);
        due("one twice", compiled(1, "LOAD 0; LOAD 1; DIV; LOAD 0; LOAD 1; DIV; ADD; RETURN").pinned(0), 1);
        due("none", compiled(1, "CONST 0; RETURN").pinned(0), 0);
    }

    static void pinnedBy(String x, String y, int want) {
        GraphCompiler g = compiled(1, x + "; " + y + "; DIV; POP; CONST 0; RETURN");
        due(x + " by " + y + ", dropped", g.pinned(0), want);
        g = compiled(1, x + "; " + y + "; DIV; RETURN");
        due(x + " by " + y + ", returned", g.pinned(0), want);
    }

    static void usedOnes() {
        of("USED are the values of the outcome (an ENTRY in its own slot among them makes no difference), the PINNED ones, and all operands of USED ones.");
        due("nothing but ENTRYs and CONSTs", compiled(1, "GOTO 0").nodes(0), 0);
        due("an ENTRY in another slot", compiled(1, "LOAD 0; STORE 1; GOTO 0").nodes(0), 0);
        due("in a local", compiled(1, "LOAD 0; NEG; STORE 1; GOTO 0").nodes(0), 1);
        due("in a local, and the run ends", compiled(1, "LOAD 0; NEG; STORE 1; CONST 1; RETURN").nodes(0), 1);
        due("in a cell", compiled(2, "LOAD 0; NEG; GOTO 3; RETURN").nodes(0), 1);
        due("dropped", compiled(1, "LOAD 0; NEG; POP; GOTO 0").nodes(0), 0);
        due("overwritten", compiled(1, "LOAD 0; NEG; STORE 1; CONST 1; STORE 1; GOTO 0").nodes(0), 0);
        due("operand of a dropped one", compiled(1, "LOAD 0; NEG; LOAD 1; ADD; POP; GOTO 0").nodes(0), 0);
        due("x of one in a local", compiled(1, "LOAD 0; NEG; LOAD 1; SUB; STORE 1; GOTO 0").nodes(0), 2);
        due("y of one in a local", compiled(1, "LOAD 1; LOAD 0; NEG; SUB; STORE 1; GOTO 0").nodes(0), 2);
        due("operand of a NEG", compiled(1, "LOAD 1; LOAD 0; SUB; NEG; STORE 1; GOTO 0").nodes(0), 2);
        due("operands of operands", compiled(1, "LOAD 1; LOAD 0; SUB; NEG; LOAD 2; MUL; STORE 1; GOTO 0").nodes(0), 3);
        due("in two slots", compiled(1, "LOAD 0; NEG; DUP; STORE 1; STORE 2; GOTO 0").nodes(0), 1);
        due("dropped, but PINNED", compiled(1, "LOAD 0; LOAD 1; DIV; POP; GOTO 0").nodes(0), 1);
        due("operands of the PINNED", compiled(1, "LOAD 0; NEG; LOAD 1; CONST 3; AND; DIV; POP; GOTO 0").nodes(0), 3);
        due("dropped and not PINNED", compiled(1, "LOAD 0; NEG; CONST 3; DIV; POP; GOTO 0").nodes(0), 0);
        due("a PINNED one times 0", compiled(1, "LOAD 0; LOAD 1; DIV; CONST 0; MUL; STORE 1; GOTO 0").nodes(0), 1);
    }

    static void starts() {
        of("Let block 0 be REACHED, its slots 0 .. 3 open and 4 .. 7 known to be 0.");
        GraphCompiler g = compiled(1, "CONST 1; RETURN");
        due("block 0", g.reached(0), true);
        for (int slot = 0; slot < 8; slot++) {
            due("slot " + slot, g.known(0, slot), slot < 4 ? NONE : 0);
        }

        of("Whenever a block is REACHED, then so are its followers");
        due("by GOTO", compiled(2, "GOTO 2; ADD; CONST 1; RETURN").reached(1), true);
        due("by going on", compiled(2, "INC 0 1; INC 0 1; GOTO 1").reached(1), true);
        due("by IFZERO both", compiled(3, "LOAD 0; IFZERO 4; CONST 1; RETURN; CONST 2; RETURN").count(2), 3);
        due("by IFLESS both", compiled(3, "LOAD 0; LOAD 1; IFLESS 5; CONST 1; RETURN; CONST 2; RETURN").count(2), 3);
        g = compiled(2, "CONST 1; CONST 0; DIV; POP; GOTO 5; CONST 2; RETURN");
        due("though each run TRAPs before", g.reached(1), true);
        due("as it does", g.run(0, 0, 0, 0, 500), TRAP);
        due("though each run goes round", compiled(3, "LOAD 0; IFZERO 4; CONST 1; RETURN; GOTO 4").count(2), 3);
    }

    static void onlyWays() {
        of("a last IFZERO whose x is a CONST");
        String rest = "; IFZERO 4; CONST 1; RETURN; CONST 2; RETURN";
        zeroWays("CONST 0" + rest, true, false);
        zeroWays("LOAD 7" + rest, true, false);
        zeroWays("CONST 1" + rest, false, true);
        zeroWays("CONST -1" + rest, false, true);
        zeroWays("CONST MIN" + rest, false, true);
        zeroWays("CONST 65536" + rest, false, true);
        zeroWays("LOAD 0" + rest, true, true);
        zeroWays("LOAD 0; LOAD 0; SUB; IFZERO 6; CONST 1; RETURN; CONST 2; RETURN", true, false);
        zeroWays("LOAD 0; CONST 0; MUL; IFZERO 6; CONST 1; RETURN; CONST 2; RETURN", true, false);
        zeroWays("CONST 0; CONST 0; DIV; IFZERO 6; CONST 1; RETURN; CONST 2; RETURN", true, true);
        due("both ways are one", compiled(2, "CONST 0; IFZERO 2; CONST 1; RETURN").reached(1), true);
        due("both ways are one, and it is not 0", compiled(2, "CONST 3; IFZERO 2; CONST 1; RETURN").reached(1), true);

        of("or IFLESS whose x and y are CONSTs");
        lessWays("CONST 3; CONST 4", true, false);
        lessWays("CONST 4; CONST 4", false, true);
        lessWays("CONST 5; CONST 4", false, true);
        lessWays("CONST MIN; CONST MAX", true, false);
        lessWays("CONST MAX; CONST MIN", false, true);
        lessWays("CONST MIN; CONST 1", true, false);
        lessWays("LOAD 4; LOAD 5", false, true);
        lessWays("LOAD 0; CONST MIN", true, true);
        lessWays("CONST MAX; LOAD 0", true, true);
        lessWays("LOAD 0; LOAD 0", true, true);

        of("in the block's values with what is known so far");
        GraphCompiler g = compiled(4, "CONST 2; STORE 4; GOTO 3; LOAD 4; CONST -2; ADD; IFZERO 9; CONST 1; RETURN; CONST 2; RETURN");
        due("known and folded: the next", g.reached(2), false);
        due("known and folded: the target", g.reached(3), true);
        // The block comes to itself with 4 grown, so that what was known so far is no more.
        g = compiled(3, "GOTO 1; INC 4 1; LOAD 4; CONST 3; IFLESS 1; LOAD 4; RETURN");
        due("the exit is reached in the end", g.reached(2), true);
        due("as runs show", g.run(0, 0, 0, 0, 500), 3);

        of("reaches only the one follower that it goes to.");
        g = compiled(4, "LOAD 4; IFZERO 5; CONST 7; STORE 5; GOTO 5; INC 6 1; LOAD 6; LOAD 0; IFLESS 5; LOAD 5; RETURN");
        due("the other is not", g.reached(1), false);
        due("so it hands nothing over", g.known(2, 5), 0);
        due("nor to what comes after", g.known(3, 5), 0);
        due("three are reached", g.count(2), 3);
    }

    static void zeroWays(String code, boolean target, boolean next) {
        GraphCompiler g = compiled(3, code);
        due("the target in " + code, g.reached(2), target);
        due("the next in " + code, g.reached(1), next);
    }

    static void lessWays(String both, boolean target, boolean next) {
        GraphCompiler g = compiled(3, both + "; IFLESS 5; CONST 1; RETURN; CONST 2; RETURN");
        due("the target with " + both, g.reached(2), target);
        due("the next with " + both, g.reached(1), next);
    }

    static void handedOver() {
        of("Each time that a REACHED block reaches a follower, it hands over what its slots hold");
        GraphCompiler g = compiled(3, "INC 4 1; CONST 6; LOAD 0; IFZERO 6; INC 4 1; RETURN; INC 4 1; STORE 6; LOAD 4; RETURN");
        for (int block = 1; block <= 2; block++) {
            due("a local as it is at the end, to " + block, g.known(block, 4), 1);
            due("a cell, to " + block, g.known(block, 8), 6);
            due("no cell that IFZERO took, to " + block, g.known(block, 9), NONE);
        }
        g = compiled(3, "GOTO 3; LOAD 4; RETURN; INC 4 5; GOTO 1");
        due("to one that stands before it", g.known(1, 4), 5);

        of("a CONST is handed over as that, anything else as open.");
        g = compiled(2, "CONST MIN; STORE 4; INC 5 -1; LOAD 0; NEG; STORE 6; CONST 1; CONST 0; DIV; STORE 7; CONST MAX; LOAD 1; "
            + "GOTO 13; GOTO 13");
        due("a CONST", g.known(1, 4), MIN);
        due("a folded CONST", g.known(1, 5), -1);
        due("a NEG", g.known(1, 6), NONE);
        due("a quotient by 0", g.known(1, 7), NONE);
        due("an ENTRY", g.known(1, 0), NONE);
        due("a CONST in a cell", g.known(1, 8), MAX);
        due("an ENTRY in a cell", g.known(1, 9), NONE);

        of("A slot of a block is open if some handing-over (for block 0 its start too) is open or two are different CONSTs; else it is KNOWN to be the CONST.");
        meets("CONST 3", "CONST 3", 3);
        meets("CONST 3", "CONST 1; CONST 2; ADD", 3);
        meets("CONST MIN", "CONST MIN", MIN);
        meets("CONST 3", "CONST 4", NONE);
        meets("CONST 0", "CONST MIN", NONE);
        meets("CONST 3", "LOAD 0", NONE);
        meets("LOAD 0", "CONST 3", NONE);
        meets("LOAD 0", "LOAD 0", NONE);
        due("a cell: one CONST", compiled(4, "LOAD 0; IFZERO 4; CONST 3; GOTO 5; CONST 3; RETURN").known(3, 8), 3);
        due("a cell: two CONSTs", compiled(4, "LOAD 0; IFZERO 4; CONST 3; GOTO 5; CONST 4; RETURN").known(3, 8), NONE);
        due("a cell: an open one", compiled(4, "LOAD 0; IFZERO 4; CONST 3; GOTO 5; LOAD 1; RETURN").known(3, 8), NONE);
        due("one that hands over twice", compiled(2, "CONST 3; STORE 4; LOAD 0; IFZERO 4; LOAD 4; RETURN").known(1, 4), 3);
        g = compiled(1, "CONST 7; STORE 0; CONST 0; STORE 4; INC 5 1; GOTO 0");
        due("block 0: open at its start", g.known(0, 0), NONE);
        due("block 0: the same again", g.known(0, 4), 0);
        due("block 0: another CONST", g.known(0, 5), NONE);
        due("block 0: left alone", g.known(0, 6), 0);

        of("This is repeated, a slot once open staying so and a block once REACHED too, until nothing changes");
        // The branch on 5 is settled in the first round and no more in the second.
        g = compiled(3, "LOAD 5; IFZERO 4; LOAD 5; RETURN; INC 5 1; GOTO 0");
        due("all are reached in the end", g.count(2), 3);
        due("5 opens", g.known(0, 5), NONE);
        due("in what was reached late too", g.known(1, 5), NONE);
        due("4 does not", g.known(1, 4), 0);
        // Each round opens one slot more: 4, then 5, then 6, then 7.
        g = compiled(2, "GOTO 1; LOAD 6; STORE 7; LOAD 5; STORE 6; LOAD 4; STORE 5; LOAD 0; STORE 4; GOTO 1");
        for (int slot = 4; slot < 8; slot++) {
            due("slot " + slot + " opens in its round", g.known(1, slot), NONE);
        }
        // The same with a way round of 15 blocks, so that the last one opens after some seventy steps.
        StringBuilder way = new StringBuilder();
        for (int place = 9; place < 23; place++) {
            way.append("GOTO ").append(place + 1).append("; ");
        }
        g = compiled(16, "GOTO 1; LOAD 6; STORE 7; LOAD 5; STORE 6; LOAD 4; STORE 5; LOAD 0; STORE 4; " + way + "GOTO 1");
        for (int block = 1; block < 16; block++) {
            due("slot 7 opens in block " + block, g.known(block, 7), NONE);
        }
        due("but not at the start", g.known(0, 7), 0);
        // What only the endless loop could change is not changed by it: the exit is never reached.
        g = compiled(3, "LOAD 5; IFZERO 4; LOAD 5; RETURN; INC 4 1; GOTO 0");
        due("the exit", g.reached(1), false);
        due("5 stays known", g.known(2, 5), 0);

        of("Blocks that are not REACHED have all slots open.");
        g = compiled(3, "LOAD 4; IFZERO 9; CONST 5; STORE 6; LOAD 4; LOAD 5; ADD; STORE 7; GOTO 9; LOAD 6; RETURN");
        due("not reached", g.reached(1), false);
        for (int slot = -1; slot < 13; slot++) {
            due("slot " + slot, g.known(1, slot), NONE);
        }
        due("its values are of ENTRYs", textOf(g, 1, 7), "(e4+e5)");
        due("its CONSTs are CONSTs", g.outcome(1, 6), 5);
        due("its nodes", g.nodes(1), 1);
        due("what it would hand over is not", g.known(2, 6), 0);
        g = compiled(3, "CONST 3; LOAD 4; IFZERO 5; NEG; RETURN; RETURN");
        due("a cell of one not reached", g.known(1, 8), NONE);
        due("a cell of one reached", g.known(2, 8), 3);
    }

    /** Slot 4 where a way that puts one thing into it meets a way that puts another. */
    static void meets(String one, String other, long want) {
        int target = 5 + one.split(";").length - 1;
        int join = target + other.split(";").length + 1;
        GraphCompiler g = compiled(4, "LOAD 0; IFZERO " + target + "; " + one + "; STORE 4; GOTO " + join + "; " + other + "; STORE 4; LOAD 4; RETURN");
        due(one + " and " + other, g.known(3, 4), want);
    }

    public static void main(String[] args) {
        slots();
        sameOnes();
        foldingAndOrder();
        shortcuts();
        madeBefore();
        outcomes();
        usedOnes();
        starts();
        onlyWays();
        handedOver();
        end();
    }
}
