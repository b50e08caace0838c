import java.util.LinkedHashMap;
import java.util.Map;
import java.util.function.Consumer;

/** The sentences that speak of what stays from call to call: an object's answers after all kinds of calls between. */
public final class StaysTest extends Trial {
    static final String LOOP = "CONST 1; STORE 4; LOAD 0; IFZERO 10; LOAD 4; LOAD 0; MUL; STORE 4; INC 0 -1; GOTO 2; LOAD 4; RETURN";
    static final String PARTLY = "LOAD 4; IFZERO 4; CONST 1; RETURN; CONST 2; RETURN";
    static final String CELLS = "LOAD 0; LOAD 1; DIV; CONST 7; LOAD 2; IFZERO 8; SWAP; GOTO 8; POP; NEG; RETURN";
    static final String ENDLESS = "GOTO 0";
    static final String QUOTIENT = "LOAD 0; LOAD 1; DIV; RETURN";

    static final Map<String, Integer> BLOCKS_OF = new LinkedHashMap<>();
    static final Map<String, Integer> BAD_AT_OF = new LinkedHashMap<>();
    static final Map<String, Consumer<GraphCompiler>> BETWEEN = new LinkedHashMap<>();

    static void codes() {
        StringBuilder chain = new StringBuilder("LOAD 0; ");
        for (int i = 2; i <= 24; i++) {
            chain.append("GOTO ").append(i == 24 ? 1 : i).append("; ");
        }
        BLOCKS_OF.put(LOOP, 4);
        BLOCKS_OF.put(PARTLY, 3);
        BLOCKS_OF.put(CELLS, 3);
        BLOCKS_OF.put(ENDLESS, 1);
        BLOCKS_OF.put(chain.toString(), 24);
        BAD_AT_OF.put("", 0);
        BAD_AT_OF.put("CONST 1; ADD", 1);
        BAD_AT_OF.put("CONST 1; DUP; DUP; DUP; DUP; RETURN", 4);
        BAD_AT_OF.put("GOTO 5; RETURN", 0);
        BAD_AT_OF.put("LOAD 0; IFZERO 4; CONST 1; CONST 2; RETURN", 4);
        BAD_AT_OF.put("CONST 1; CONST 2; CONST 3; LOAD 0; IFZERO 6; POP; POP; CONST 9; STORE 5", 6);
    }

    static void between() {
        BETWEEN.put("nothing", g -> { });
        BETWEEN.put("emits", g -> {
            for (int i = 0; i < 25; i++) {
                g.emit(i % 2 == 0 ? INC : GOTO, i % 8, i);
            }
        });
        BETWEEN.put("refused ones", g -> {
            g.emit(21, 0, 0);
            g.emit(LOAD, 8, 0);
            g.emit(MIN, MIN, MIN);
            g.patch(-1, CONST, 0, 0);
            g.patch(24, CONST, 0, 0);
            g.patch(0, IFZERO, 24, 0);
            g.patch(MAX, MAX, MAX, MAX);
        });
        BETWEEN.put("patches", g -> {
            int size = g.count(0);
            for (int i = 0; i < size; i++) {
                due("patch " + i, g.patch(i, CONST, -i, i), DONE);
            }
        });
        BETWEEN.put("clear", GraphCompiler::clear);
        BETWEEN.put("other code written", g -> {
            g.clear();
            write(g, CELLS);
        });
        for (String code : BAD_AT_OF.keySet()) {
            BETWEEN.put("BAD " + code, g -> compileBad(g, code));
        }
        BETWEEN.put("runs", g -> {
            int[] fuels = {MIN, 0, 1, 3, 500, MAX};
            for (int fuel : fuels) {
                g.run(fuel, -fuel, 1, 2, fuel);
            }
        });
        BETWEEN.put("questions", StaysTest::askAround);
    }

    static void askAround(GraphCompiler g) {
        int[] numbers = {2, 0, 23, 1, -1, 24, MIN, MAX};
        for (int n : numbers) {
            g.text(n, 4, 3);
            g.text(0, n, -1);
            g.nodes(n);
            g.outcome(n, 4);
            g.known(n, n);
            g.saved(n);
            g.count(n);
        }
        g.badAt();
    }

    static void compileBad(GraphCompiler g, String code) {
        g.clear();
        write(g, code);
        due("compile of " + code, g.compile(), BAD);
        due("badAt of " + code, g.badAt(), BAD_AT_OF.get(code));
    }

    static void compileGood(GraphCompiler g, String code) {
        g.clear();
        write(g, code);
        due("compile of " + code, g.compile(), BLOCKS_OF.get(code));
        due("badAt of " + code, g.badAt(), -1);
    }

    /** All that can be asked of each block, and of the slots of three of them: 340 calls for 24 blocks. */
    static String whole(GraphCompiler g) {
        StringBuilder all = new StringBuilder();
        int blocks = g.count(1);
        for (int block = 0; block <= blocks; block++) {
            all.append("block ").append(block).append(' ').append(g.leader(block)).append(' ').append(g.height(block)).append(' ')
                .append(g.follower(block, 0)).append(' ').append(g.follower(block, 1)).append(' ').append(g.reached(block)).append(' ')
                .append(g.nodes(block)).append(' ').append(g.pinned(block)).append(' ').append(g.saved(block)).append('\n');
        }
        int[] some = {0, blocks / 2, blocks - 1};
        for (int block : some) {
            for (int slot = 0; slot < 11; slot++) {
                all.append(g.known(block, slot)).append(' ').append(g.outcome(block, slot)).append(' ').append(g.text(block, slot, -1))
                    .append(' ').append(g.text(block, slot, 1)).append('\n');
            }
        }
        return all.append(blocks).append(' ').append(g.count(2)).append(' ').append(g.run(3, 1, 0, 5, 100)).append(' ').append(g.count(3))
            .append(' ').append(g.run(9, 0, 1, 5, 2)).append(' ').append(g.count(3)).toString();
    }

    static void whatIsCompiled() {
        of("What is compiled stays.");
        for (String code : BLOCKS_OF.keySet()) {
            GraphCompiler alone = new GraphCompiler();
            compileGood(alone, code);
            String want = whole(alone);
            for (String first : BETWEEN.keySet()) {
                for (String second : BETWEEN.keySet()) {
                    GraphCompiler g = new GraphCompiler();
                    compileGood(g, code);
                    BETWEEN.get(first).accept(g);
                    BETWEEN.get(second).accept(g);
                    due("after " + first + " and " + second + ", " + code, whole(g), want);
                }
            }
        }
    }

    static void asItIsNow() {
        of("Else it is compiled as it is now, badAt is -1: the number of blocks.");
        for (String code : BLOCKS_OF.keySet()) {
            GraphCompiler alone = new GraphCompiler();
            compileGood(alone, code);
            String want = whole(alone);
            for (String before : BLOCKS_OF.keySet()) {
                for (String first : BETWEEN.keySet()) {
                    GraphCompiler g = new GraphCompiler();
                    compileGood(g, before);
                    BETWEEN.get(first).accept(g);
                    compileGood(g, code);
                    due("after " + before + " and " + first + ", " + code, whole(g), want);
                }
            }
        }
    }

    /** The digits of the number name the calls: every row of so many kinds of calls is tried. */
    static void badPlaces() {
        of("As the last compile set it; -1 before.");
        String[] bad = BAD_AT_OF.keySet().toArray(new String[0]);
        int kinds = bad.length + 4;
        for (int row = 0; row < kinds * kinds * kinds; row++) {
            GraphCompiler g = new GraphCompiler();
            int want = -1;
            due("in a new one", g.badAt(), want);
            for (int rest = row, step = 0; step < 3; rest /= kinds, step++) {
                int kind = rest % kinds;
                if (kind < bad.length) {
                    compileBad(g, bad[kind]);
                    want = BAD_AT_OF.get(bad[kind]);
                } else if (kind == bad.length) {
                    compileGood(g, PARTLY);
                    want = -1;
                } else if (kind == bad.length + 1) {
                    g.patch(0, ADD, 0, 0);
                    g.emit(POP, 0, 0);
                } else if (kind == bad.length + 2) {
                    g.clear();
                } else {
                    g.run(1, 2, 3, 4, 5);
                    askAround(g);
                }
                due("in row " + row + ", step " + step, g.badAt(), want);
            }
        }
    }

    static void enteredOnes() {
        of("3: blocks entered by the last run (0 before).");
        for (int row = 0; row < 6 * 6 * 6 * 6; row++) {
            GraphCompiler g = new GraphCompiler();
            String code = "";
            int want = 0;
            due("in a new one", g.count(3), want);
            for (int rest = row, step = 0; step < 4; rest /= 6, step++) {
                int kind = rest % 6;
                String where = "in row " + row + ", step " + step;
                if (kind < 2) {
                    code = kind == 0 ? LOOP : QUOTIENT;
                    g.clear();
                    write(g, code);
                    g.compile();
                } else if (kind == 2) {
                    compileBad(g, "CONST 1; ADD");
                } else if (kind == 3) {
                    askAround(g);
                } else if (kind == 4) {
                    // The loop enters 1 + 3 + 2 + 1 blocks, the quotient traps in its only one.
                    due(where, g.run(2, 0, 0, 0, 500), code.isEmpty() ? NONE : code.equals(LOOP) ? 2 : TRAP);
                    want = code.isEmpty() ? 0 : code.equals(LOOP) ? 7 : 1;
                } else {
                    due(where, g.run(2, 1, 0, 0, 3), code.isEmpty() ? NONE : code.equals(LOOP) ? TIRED : 2);
                    want = code.isEmpty() ? 0 : code.equals(LOOP) ? 3 : 1;
                }
                due(where + " entered", g.count(3), want);
                due(where + " blocks", g.count(1), code.isEmpty() ? 0 : code.equals(LOOP) ? 4 : 1);
                due(where + " reached", g.count(2), code.isEmpty() ? 0 : code.equals(LOOP) ? 4 : 1);
            }
        }
    }

    public static void main(String[] args) {
        codes();
        between();
        whatIsCompiled();
        asItIsNow();
        badPlaces();
        enteredOnes();
        end();
    }
}
