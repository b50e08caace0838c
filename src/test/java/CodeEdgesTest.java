/** The edges that the document names in its terms of instructions, THE CHECK and BLOCKS: a test for each sentence, worked out by hand. */
public final class CodeEdgesTest extends Trial {
    static final int[] TAKES = {0, 0, 1, 2, 2, 2, 2, 2, 2, 2, 2, 2, 1, 1, 2, 1, 1, 2, 0, 1, 0};
    static final int[] PUTS = {1, 1, 0, 1, 1, 1, 1, 1, 1, 1, 1, 1, 1, 2, 2, 0, 0, 0, 0, 0, 0};

    static void sizes() {
        of("CODE is 0 .. 24 instructions, numbered from 0");
        due("no instructions", new GraphCompiler().count(0), 0);
        GraphCompiler g = compiled(1, times(22, "INC 0 1") + "LOAD 0; RETURN");
        due("24 instructions", g.count(0), 24);
        due("all of them run, the one numbered 23 too", g.run(100, 0, 0, 0, 1), 122);
        due("one more", g.emit(RETURN, 0, 0), REFUSED);

        of("over 8 int locals (0 .. 7)");
        String fill = "INC 0 1; INC 1 2; INC 2 3; INC 3 4; INC 4 5; INC 5 6; INC 6 7; INC 7 8; ";
        long[] want = {1001, 2002, 3003, 4004, 5, 6, 7, 8};
        for (int local = 0; local < 8; local++) {
            due("local " + local, answer(fill + "LOAD " + local + "; RETURN", 1000, 2000, 3000, 4000), want[local]);
        }

        of("a stack of at most 4 ints");
        due("four ints in their order", answer("LOAD 0; LOAD 1; LOAD 2; LOAD 3; SUB; SUB; SUB; RETURN", 1000, 100, 10, 1), 909);
        bad(4, "LOAD 0; LOAD 1; LOAD 2; LOAD 3; LOAD 0; POP; RETURN");
    }

    static void wraps() {
        of("All arithmetic wraps at 32 bits.");
        calculates(ADD, MAX, 1, MIN);
        calculates(ADD, MIN, -1, MAX);
        calculates(ADD, MIN, MIN, 0);
        calculates(SUB, MIN, 1, MAX);
        calculates(SUB, 0, MIN, MIN);
        calculates(SUB, MAX, -1, MIN);
        calculates(MUL, 65536, 65536, 0);
        calculates(MUL, MAX, MAX, 1);
        calculates(MUL, MIN, -1, MIN);
        calculates(MUL, 65537, 65537, 131073);
        calculates(SHL, 3, 31, MIN);
        due("NEG of the least CONST", made("CONST MIN; NEG"), "-2147483648");
        due("NEG of the least int", answer("LOAD 0; NEG; RETURN", MIN), MIN);
        due("INC of a known local", compiled(1, "INC 4 MAX; INC 4 1; CONST 0; RETURN").outcome(0, 4), MIN);
        due("INC in a run", answer("INC 0 1; LOAD 0; RETURN", MAX), MIN);
        due("INC by the least int", answer("INC 0 MIN; LOAD 0; RETURN", -1), MAX);
    }

    static void ignoredOperands() {
        of("one that is not named may be any int and is ignored");
        int[] any = {MIN, -1, 8, 24, MAX};
        for (int op = CONST; op <= INC; op++) {
            boolean local = op == LOAD || op == STORE || op == INC;
            boolean jump = op == IFZERO || op == IFLESS || op == GOTO;
            for (int free : any) {
                GraphCompiler g = new GraphCompiler();
                due("emit of op " + op + " with " + free, g.emit(op, local || jump ? 0 : free, free), 0);
                due("patch to op " + op + " with " + free, g.patch(0, op, local || jump ? 0 : free, free), DONE);
            }
        }
        GraphCompiler g = new GraphCompiler();
        int[][] code = {{LOAD, 0, 9}, {CONST, 5, MIN}, {ADD, 24, -1}, {LOAD, 0, MAX}, {CONST, 5, 3}, {ADD, 1, 2}, {SUB, MIN, 8},
            {IFZERO, 9, MAX}, {GOTO, 8, 3}, {LOAD, 0, 4}, {DUP, 7, 7}, {SWAP, -9, 0}, {POP, 99, 1}, {NEG, 5, 5}, {RETURN, MIN, MAX}};
        for (int[] ins : code) {
            g.emit(ins[0], ins[1], ins[2]);
        }
        due("compile", g.compile(), 3);
        due("an ADD is SAME as one with other operands that it ignores", g.saved(0), 3);
        due("their difference is known to be 0", g.reached(1), false);
        due("the run", g.run(6, 0, 0, 0, 500), -6);
    }

    static void order() {
        of("\"takes x, y\" means y from the top, x below it");
        calculates(SUB, 7, 2, 5);
        calculates(DIV, 7, 2, 3);
        calculates(SHL, 7, 2, 28);
        calculates(SHR, 7, 2, 1);
        due("the one below stands first", made("LOAD 0", "LOAD 1", SUB), "(e0-e1)");
        due("IFLESS", answer("LOAD 0; LOAD 1; IFLESS 5; CONST 2; RETURN; CONST 1; RETURN", 2, 7), 1);
    }

    static void putsAndTakes() {
        int[] some = {0, 1, -1, 10, MIN, MAX};
        of("take x, y, put x op y.");
        long[] want = {1105, 1095, 5500, 220, 4, 1101, 1097, 35200, 34};
        for (int op = ADD; op <= SHR; op++) {
            calculates(op, 1100, 5, want[op - ADD]);
            due("two are taken by " + NAMES.get(op), answer("LOAD 2; LOAD 0; LOAD 1; " + NAMES.get(op) + "; POP; RETURN", 1100, 5, 3), 3);
        }

        of("CONST a: puts a.");
        for (int a : some) {
            due("CONST " + a, answer("CONST " + a + "; RETURN"), a);
            due("CONST " + a + " at the end", compiled(1, "CONST " + a + "; STORE 0; CONST 0; RETURN").outcome(0, 0), a);
        }

        of("LOAD a: puts local a (0 .. 7).");
        due("LOAD leaves the local", answer("LOAD 0; LOAD 0; ADD; RETURN", 21), 42);
        due("LOAD 3", answer("LOAD 3; RETURN", 1, 2, 3, 4), 4);
        due("LOAD 7", answer("INC 7 5; LOAD 7; RETURN"), 5);
        localsOf(LOAD);

        of("STORE a: takes x into local a (0 .. 7).");
        due("STORE 0", answer("CONST 9; STORE 0; LOAD 0; RETURN", 1), 9);
        due("STORE 7", answer("CONST 9; STORE 7; LOAD 7; RETURN"), 9);
        due("STORE leaves the others", answer("CONST 9; STORE 1; LOAD 0; LOAD 2; SUB; RETURN", 50, 0, 8), 42);
        due("STORE takes from the top", answer("LOAD 0; LOAD 1; STORE 2; RETURN", 1, 2), 1);
        localsOf(STORE);

        of("INC a b: local a (0 .. 7) grows by b.");
        int[] grow = {0, 1, -1, 1000, MIN, MAX};
        for (int b : grow) {
            due("INC by " + b, answer("INC 0 " + b + "; LOAD 0; RETURN", 77), 77 + b);
            due("INC of a known one by " + b, compiled(1, "INC 7 " + b + "; CONST 0; RETURN").outcome(0, 7), b);
        }
        localsOf(INC);

        of("NEG: takes x, puts -x.");
        for (int x : some) {
            due("NEG of " + x, answer("LOAD 0; NEG; RETURN", x), -x);
            due("NEG of CONST " + x, made("CONST " + x + "; NEG"), Integer.toString(-x));
        }

        of("DUP: takes x, puts x and x.");
        due("DUP", answer("LOAD 0; DUP; MUL; RETURN", 9), 81);
        due("DUP of the fourth would be five", written("CONST 1; DUP; DUP; DUP; DUP; RETURN").compile(), BAD);

        of("SWAP: takes x, y, puts y, x.");
        due("SWAP", answer("LOAD 0; LOAD 1; SWAP; SUB; RETURN", 7, 2), -5);
        due("SWAP on top of others", answer("LOAD 0; LOAD 1; LOAD 2; SWAP; SUB; SUB; RETURN", 100, 7, 2), 105);

        of("POP: takes x.");
        due("POP", answer("LOAD 0; LOAD 1; POP; RETURN", 7, 2), 7);
        due("POP leaves all below", answer("LOAD 0; LOAD 1; LOAD 2; POP; SUB; RETURN", 7, 2, 9), 5);
    }

    static void localsOf(int op) {
        GraphCompiler g = new GraphCompiler();
        int[] none = {-1, 8, 9, MIN, MAX};
        for (int local : none) {
            due(NAMES.get(op) + " of local " + local, g.emit(op, local, 0), REFUSED);
        }
        for (int local = 0; local < 8; local++) {
            due(NAMES.get(op) + " of local " + local, g.emit(op, local, 0), local);
        }
        for (int local : none) {
            due("patch to " + NAMES.get(op) + " of local " + local, g.patch(0, op, local, 0), REFUSED);
        }
        due("patch to " + NAMES.get(op) + " of local 7", g.patch(0, op, 7, 0), DONE);
    }

    static void divisions() {
        of("DIV truncates (-2^31 by -1 gives -2^31)");
        calculates(DIV, MIN, -1, MIN);
        calculates(DIV, 7, 2, 3);
        calculates(DIV, -7, 2, -3);
        calculates(DIV, 7, -2, -3);
        calculates(DIV, -7, -2, 3);
        calculates(DIV, -1, 2, 0);
        calculates(DIV, 0, -5, 0);
        calculates(DIV, MIN, 1, MIN);
        calculates(DIV, MAX, -1, -MAX);
        calculates(DIV, MAX, MIN, 0);

        of("y = 0 is a TRAP, which ends the run.");
        int[] some = {5, 0, -1, MIN};
        for (int x : some) {
            due(x + " by 0", answer("LOAD 0; LOAD 1; DIV; RETURN", x, 0), TRAP);
            due(x + " by CONST 0", answer("LOAD 0; CONST 0; DIV; RETURN", x), TRAP);
            due("CONST " + x + " by CONST 0", answer("CONST " + x + "; CONST 0; DIV; RETURN"), TRAP);
        }
        due("0 by something is none", answer("LOAD 0; LOAD 1; DIV; RETURN", 0, 5), 0);
        trapsWith("POP; CONST 3");
        trapsWith("CONST 0; MUL");
        trapsWith("DUP; SUB");
        trapsWith("STORE 4; CONST 3; STORE 4; LOAD 4");
        GraphCompiler g = compiled(1, "LOAD 0; LOAD 1; DIV; STORE 4; GOTO 0");
        due("it ends a loop", g.run(1, 0, 0, 0, 500), TRAP);
        due("at once", g.count(3), 1);
        due("no TRAP, no end", g.run(1, 1, 0, 0, 500), TIRED);
        due("a TRAP again", g.run(1, 0, 0, 0, 500), TRAP);
        g = compiled(2, "LOAD 0; LOAD 1; DIV; IFZERO 4; CONST 8; RETURN");
        due("a TRAP before the way is chosen", g.run(1, 0, 0, 0, 500), TRAP);
        due("so no way is gone", g.count(3), 1);
    }

    /** What becomes of the quotient makes no difference. */
    static void trapsWith(String rest) {
        GraphCompiler g = compiled(1, "LOAD 0; LOAD 1; DIV; " + rest + "; RETURN");
        due("a TRAP, then " + rest, g.run(5, 0, 0, 0, 1), TRAP);
        due("no TRAP, then " + rest, g.run(5, 2, 0, 0, 1) != TRAP, true);
    }

    static void shifts() {
        of("SHL and SHR (arithmetic) shift by the low five bits of y.");
        calculates(SHL, 5, 0, 5);
        calculates(SHL, 1, 31, MIN);
        calculates(SHL, 5, 32, 5);
        calculates(SHL, 5, 33, 10);
        calculates(SHL, 1, -1, MIN);
        calculates(SHL, 7, -32, 7);
        calculates(SHL, 7, MIN, 7);
        calculates(SHL, 1, MAX, MIN);
        calculates(SHL, MIN, 1, 0);
        calculates(SHR, -8, 0, -8);
        calculates(SHR, -8, 1, -4);
        calculates(SHR, -1, 31, -1);
        calculates(SHR, MIN, 31, -1);
        calculates(SHR, MAX, 30, 1);
        calculates(SHR, MAX, 31, 0);
        calculates(SHR, -8, 32, -8);
        calculates(SHR, -8, 33, -4);
        calculates(SHR, 64, -31, 32);
        calculates(SHR, MIN, -1, -1);
        calculates(SHR, 9, MIN, 9);
    }

    static void jumps() {
        of("IFZERO a: takes x, goes to instruction a if x is 0, else to the next.");
        String zero = "; IFZERO 4; CONST 2; RETURN; CONST 1; RETURN";
        int[] others = {1, -1, MIN, MAX, 65536};
        due("x is 0", answer("LOAD 0" + zero, 0), 1);
        due("x is CONST 0", answer("CONST 0" + zero), 1);
        for (int x : others) {
            due("x is " + x, answer("LOAD 0" + zero, x), 2);
            due("x is CONST " + x, answer("CONST " + x + zero), 2);
        }
        due("it takes x alone", answer("LOAD 0; LOAD 1; IFZERO 4; NEG; RETURN", 6, 1), -6);

        of("IFLESS a: takes x, y, goes to a if x is less than y, else to the next.");
        int[][] less = {{0, 1}, {-1, 0}, {MIN, MAX}, {MIN, 1}, {-2, MAX}, {MIN, MIN + 1}, {MAX - 1, MAX}};
        for (int[] pair : less) {
            lessOrNot(pair[0], pair[1], 1);
            lessOrNot(pair[1], pair[0], 2);
        }
        int[] equal = {0, -1, MIN, MAX};
        for (int x : equal) {
            lessOrNot(x, x, 2);
        }
        due("it takes both", answer("LOAD 0; LOAD 1; LOAD 2; IFLESS 5; NEG; RETURN", 6, 2, 1), -6);

        of("GOTO a: goes to a.");
        due("on", answer("GOTO 3; CONST 1; RETURN; CONST 2; RETURN"), 2);
        due("back", answer("GOTO 3; CONST 1; RETURN; GOTO 1"), 1);
        due("to the next", answer("GOTO 1; CONST 1; RETURN"), 1);
        due("to itself", answer("GOTO 0"), TIRED);

        of("RETURN: takes x, the run ends with it.");
        due("the top of several", answer("CONST 1; CONST 2; CONST 3; CONST 4; RETURN"), 4);
        due("nothing after it is done", answer("LOAD 0; RETURN; NEG; RETURN", 5), 5);
        int[] some = {0, -1, -2, MIN, MAX};
        for (int x : some) {
            due("RETURN of " + x, answer("LOAD 0; RETURN", x), x);
        }

        of("a of 16, 17, 18 is 0 .. 23.");
        int[] none = {-1, 24, 25, MIN, MAX};
        for (int op = IFZERO; op <= GOTO; op++) {
            GraphCompiler g = new GraphCompiler();
            for (int a : none) {
                due(NAMES.get(op) + " to " + a, g.emit(op, a, 0), REFUSED);
            }
            for (int a = 0; a < 24; a++) {
                due(NAMES.get(op) + " to " + a, g.emit(op, a, 0), a);
            }
            for (int a : none) {
                due("patch to " + NAMES.get(op) + " to " + a, g.patch(23, op, a, 0), REFUSED);
            }
            due("patch to " + NAMES.get(op) + " to 23", g.patch(0, op, 23, 0), DONE);
        }
    }

    static void lessOrNot(int x, int y, int want) {
        String rest = "; IFLESS 5; CONST 2; RETURN; CONST 1; RETURN";
        due(x + " less than " + y, answer("LOAD 0; LOAD 1" + rest, x, y), want);
        due(x + " less than " + y + " of CONSTs", answer("CONST " + x + "; CONST " + y + rest), want);
    }

    static void checkOfHeights() {
        of("Empty code is BAD at place 0.");
        bad(0, "");
        GraphCompiler g = compiled(1, "CONST 1; RETURN");
        g.clear();
        due("compile after clear", g.compile(), BAD);
        due("badAt after clear", g.badAt(), 0);

        of("Else place 0 gets the height 0");
        bad(0, "RETURN");
        bad(0, "CONST 1; GOTO 0");
        good("CONST 1; POP; GOTO 0");
        due("height of block 0", compiled(1, "CONST 1; RETURN").height(0), 0);

        of("its instruction takes more than its height: BAD at it");
        for (int op = CONST; op <= INC; op++) {
            for (int height = 0; height < TAKES[op]; height++) {
                bad(height, atHeight(op, height));
            }
            if (TAKES[op] > 0) {
                good(atHeight(op, TAKES[op]));
            }
        }

        of("its height less what it takes and with what it puts, which is the height AFTER, is more than 4: BAD at it");
        for (int op = CONST; op <= INC; op++) {
            for (int height = TAKES[op]; height <= 4; height++) {
                if (height - TAKES[op] + PUTS[op] > 4) {
                    bad(height, atHeight(op, height));
                } else {
                    good(atHeight(op, height));
                }
            }
        }
        bad(4, atHeight(CONST, 4));
        bad(4, atHeight(LOAD, 4));
        bad(4, atHeight(DUP, 4));
        good(atHeight(DUP, 3));
        good(atHeight(SWAP, 4));
        good(atHeight(INC, 4));
    }

    /** So many CONSTs, the op, and an endless loop, which fits any height. */
    static String atHeight(int op, int height) {
        boolean jump = op >= IFZERO && op <= GOTO;
        int after = height + 1;
        return times(height, "CONST 1") + NAMES.get(op) + " " + (jump ? after : 0) + "; GOTO " + after;
    }

    static void checkOfOrder() {
        of("the least place that has a height and was not looked at is looked at");
        // 4 gives heights to 1 and to 5; the last that got one is not the least.
        bad(1, "GOTO 3; ADD; ADD; LOAD 0; IFZERO 1; ADD");
        // 1 gives one to 4 first; the first that got one is not the least.
        bad(2, "LOAD 0; IFZERO 4; ADD; GOTO 3; ADD");
        // 8 waits from 1 on; before it come 2, 6, 7, and then 5, which got its height last.
        bad(5, "LOAD 0; IFZERO 8; GOTO 6; ADD; ADD; ADD; LOAD 0; IFZERO 5; ADD");

        of("The first BAD ends THE CHECK.");
        bad(0, "ADD; ADD; ADD");
        bad(1, "CONST 1; ADD; DUP; DUP; DUP; DUP; DUP; DUP");
        bad(2, "LOAD 0; IFZERO 3; RETURN; RETURN");
    }

    static void checkOfFollowers() {
        of("that is no instruction: BAD at the place looked at");
        for (int op = CONST; op <= INC; op++) {
            String code = "CONST 1; CONST 1; " + NAMES.get(op) + " 0";
            if (op < IFZERO || op == INC) {
                bad(2, code);
            }
        }
        bad(1, "CONST 1; IFZERO 0");
        bad(2, "CONST 1; CONST 1; IFLESS 0");
        bad(1, "CONST 1; IFZERO 4; CONST 1; RETURN");
        good("CONST 1; IFZERO 3; GOTO 3; GOTO 3");
        bad(2, "CONST 1; CONST 1; IFLESS 4; GOTO 3");
        good("CONST 1; CONST 1; IFLESS 3; GOTO 3");
        bad(0, "GOTO 1");
        bad(0, "GOTO 23");
        good("GOTO 0");
        good("GOTO 23; " + times(22, "INC 0 1") + "GOTO 0");
        bad(0, "GOTO 23; " + times(22, "INC 0 1"));
        bad(23, times(24, "INC 0 1"));

        of("for each follower (the target of 16, 17, 18, then the next one");
        // The target has another height, the next is no instruction.
        bad(0, "CONST 1; CONST 1; IFZERO 0");
        bad(0, "CONST 1; CONST 1; CONST 1; IFLESS 0");
        // The target is no instruction, the next has another height.
        bad(4, "LOAD 0; IFZERO 5; CONST 1; CONST 1; IFZERO 23; GOTO 5");
        bad(5, "LOAD 0; IFZERO 6; CONST 1; CONST 1; CONST 1; IFLESS 23; GOTO 6");
        // Both have another height.
        bad(0, "LOAD 0; IFZERO 5; CONST 1; CONST 1; IFZERO 0; GOTO 5");
        bad(0, "LOAD 0; IFZERO 6; CONST 1; CONST 1; CONST 1; IFLESS 0; GOTO 6");
        // The target is as it should be, the next is not.
        bad(5, "LOAD 0; IFZERO 5; CONST 1; CONST 1; IFZERO 3; GOTO 5");

        of("but not for 18 and 19)");
        good("GOTO 0");
        good("CONST 1; RETURN");
        good("GOTO 2; ADD; CONST 1; RETURN");
        good("CONST 1; RETURN; ADD");
        // 5, and then 4, has the height 0 from 1; what stands before it would bring another one.
        good("LOAD 0; IFZERO 5; CONST 1; CONST 1; RETURN; GOTO 5");
        good("LOAD 0; IFZERO 4; CONST 1; GOTO 5; GOTO 4; RETURN");

        of("it has no height: it gets the height AFTER; it has another height: BAD at the follower.");
        GraphCompiler g = compiled(3, "LOAD 0; LOAD 1; IFZERO 4; RETURN; RETURN");
        due("the target's height", g.height(2), 1);
        due("the next one's height", g.height(1), 1);
        // A place that was looked at, one that still waits, by a jump and by going on, too high and too low.
        bad(0, "CONST 1; GOTO 0");
        bad(1, "CONST 1; CONST 1; GOTO 1");
        bad(4, "LOAD 0; IFZERO 4; CONST 1; GOTO 4; GOTO 4");
        bad(3, "LOAD 0; IFZERO 3; CONST 1; GOTO 3");
        bad(4, "CONST 1; LOAD 0; IFZERO 4; POP; GOTO 4");
        good("CONST 1; LOAD 0; IFZERO 4; NEG; GOTO 4");
        good("CONST 1; CONST 1; ADD; GOTO 1");

        of("A place is COME TO if it gets a height.");
        good("CONST 1; RETURN; ADD; DUP; RETURN; IFZERO 23; STORE 0");
        good("GOTO 4; ADD; IFLESS 23; POP; CONST 1; RETURN");
        // What no run can come to is come to all the same.
        bad(2, "CONST 0; IFZERO 3; ADD; CONST 1; RETURN");
        bad(4, "CONST 1; IFZERO 4; CONST 1; RETURN; ADD");
        bad(5, "CONST 1; CONST 0; IFLESS 5; CONST 1; RETURN; ADD");
        bad(5, "CONST 1; CONST 0; DIV; POP; GOTO 5; ADD");
    }

    static void leaders() {
        of("A LEADER is a place COME TO that is 0");
        GraphCompiler g = compiled(1, "CONST 1; RETURN; CONST 2; RETURN");
        due("leader 0", g.leader(0), 0);
        due("what is not come to has none", g.leader(1), REFUSED);
        due("0 need not be a target", compiled(2, "INC 0 1; GOTO 1").leader(0), 0);

        of("or a target of a 16, 17 or 18 that is COME TO");
        leads("LOAD 0; IFZERO 4; INC 1 1; INC 1 1; LOAD 1; RETURN", 0, 2, 4);
        leads("LOAD 0; LOAD 1; IFLESS 5; INC 1 1; INC 1 1; LOAD 1; RETURN", 0, 3, 5);
        leads("GOTO 2; INC 0 1; LOAD 0; RETURN", 0, 2);
        leads("INC 0 1; INC 0 1; INC 0 1; GOTO 1", 0, 1);
        leads("INC 0 1; INC 0 1; LOAD 0; IFZERO 1; LOAD 0; RETURN", 0, 1, 4);
        // None of the jumps behind the RETURN is come to.
        leads("LOAD 0; LOAD 1; ADD; RETURN; GOTO 1", 0);
        leads("LOAD 0; LOAD 1; ADD; RETURN; IFZERO 2; IFLESS 3; GOTO 1", 0);

        of("or the next of a 16 or 17 that is");
        leads("INC 0 1; LOAD 0; IFZERO 0; INC 0 1; GOTO 0", 0, 3);
        leads("INC 0 1; LOAD 0; LOAD 1; IFLESS 0; INC 0 1; GOTO 0", 0, 4);
        leads("GOTO 0; INC 0 1; GOTO 0", 0);
        leads("LOAD 0; RETURN; INC 0 1; GOTO 0", 0);

        of("Blocks are numbered 0, 1, .. by their leaders' places");
        // 4 is come to before 1 is.
        g = leads("GOTO 4; LOAD 0; RETURN; ADD; GOTO 1", 0, 1, 4);
        due("0 goes to the third", g.follower(0, 0), 2);
        due("the third goes to the second", g.follower(2, 0), 1);
        g = leads(chain(), 0, 1, 2, 3, 4, 5, 6, 7, 8, 9, 10, 11, 12, 13, 14, 15, 16, 17, 18, 19, 20, 21, 22, 23);
        due("24 blocks", g.count(1), 24);
        due("all of them reached", g.count(2), 24);
        due("the last goes to the first", g.follower(23, 0), 0);
        due("the 24th entered", g.run(0, 0, 0, 0, 24), TIRED);
    }

    /** 24 instructions, each of them a block. */
    static String chain() {
        StringBuilder code = new StringBuilder();
        for (int place = 0; place < 24; place++) {
            code.append("GOTO ").append((place + 1) % 24).append("; ");
        }
        return code.toString();
    }

    static GraphCompiler leads(String code, int... places) {
        GraphCompiler g = compiled(places.length, code);
        for (int block = 0; block < places.length; block++) {
            due("leader " + block + " of " + code, g.leader(block), places[block]);
        }
        due("no leader more in " + code, g.leader(places.length), REFUSED);
        return g;
    }

    static void blocks() {
        of("a block has the places from its leader up to the next 16 .. 19, or up to before the next leader.");
        GraphCompiler g = compiled(1, "INC 4 1; LOAD 4; RETURN; INC 4 1; INC 4 1");
        due("up to a RETURN", g.outcome(0, 4), 1);
        due("so much is asked for up to a RETURN", g.saved(0), 1);
        g = compiled(2, "INC 4 1; GOTO 3; INC 4 1; LOAD 4; RETURN");
        due("up to a GOTO", g.outcome(0, 4), 1);
        due("so much is asked for up to a GOTO", g.saved(0), 1);
        g = compiled(2, "INC 4 1; LOAD 0; IFZERO 3; INC 4 1; LOAD 4; RETURN");
        due("up to an IFZERO", g.outcome(0, 4), 1);
        g = compiled(2, "INC 4 1; LOAD 0; LOAD 1; IFLESS 4; INC 4 1; LOAD 4; RETURN");
        due("up to an IFLESS", g.outcome(0, 4), 1);
        g = compiled(3, "INC 4 1; INC 5 1; LOAD 0; IFZERO 1; LOAD 5; RETURN");
        due("up to before a leader: what is inside", g.outcome(0, 4), 1);
        due("up to before a leader: what is not", g.outcome(0, 5), 0);
        due("up to before a leader: asked for", g.saved(0), 1);
        due("a run enters both", g.run(1, 0, 0, 0, 500), 1);
        due("a run entered three", g.count(3), 3);

        of("Its followers: those of its last instruction: for 16 and 17 the target first, then the next; equal ones count twice.");
        follows("LOAD 0; IFZERO 4; CONST 1; RETURN; CONST 2; RETURN", 3, 2, 1);
        follows("LOAD 0; LOAD 1; IFLESS 5; CONST 1; RETURN; CONST 2; RETURN", 3, 2, 1);
        follows("INC 0 1; LOAD 0; IFZERO 0; CONST 1; RETURN", 2, 0, 1);
        follows("LOAD 0; IFZERO 2; CONST 1; RETURN", 2, 1, 1);
        follows("LOAD 0; LOAD 1; IFLESS 3; CONST 1; RETURN", 2, 1, 1);
        follows("GOTO 2; ADD; CONST 1; RETURN", 2, 1, REFUSED);
        follows("GOTO 1; CONST 1; RETURN", 2, 1, REFUSED);
        follows("GOTO 0", 1, 0, REFUSED);
        follows("INC 0 1; INC 0 1; GOTO 1", 2, 1, REFUSED);
        follows("CONST 1; RETURN", 1, REFUSED, REFUSED);
        // A way that is never gone is a follower all the same.
        follows("CONST 0; IFZERO 4; CONST 1; RETURN; CONST 2; RETURN", 3, 2, 1);
    }

    static void follows(String code, int blocks, int first, int second) {
        GraphCompiler g = compiled(blocks, code);
        due("the first follower in " + code, g.follower(0, 0), first);
        due("the second follower in " + code, g.follower(0, 1), second);
    }

    public static void main(String[] args) {
        sizes();
        wraps();
        ignoredOperands();
        order();
        putsAndTakes();
        divisions();
        shifts();
        jumps();
        checkOfHeights();
        checkOfOrder();
        checkOfFollowers();
        leaders();
        blocks();
        end();
    }
}
