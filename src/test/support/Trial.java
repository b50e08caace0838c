import java.util.Arrays;
import java.util.List;

/** What the edge tests share: the document's sentence under test, code written in words, and answers held against those due. */
abstract class Trial {
    static final int REFUSED = -1, BAD = -2, DONE = 0;
    static final long NONE = 1000000000000L, TRAP = 1000000000001L, TIRED = 1000000000002L;
    static final int MIN = Integer.MIN_VALUE, MAX = Integer.MAX_VALUE;
    static final int CONST = 0, LOAD = 1, STORE = 2, ADD = 3, SUB = 4, MUL = 5, DIV = 6, AND = 7, OR = 8, XOR = 9, SHL = 10, SHR = 11;
    static final int NEG = 12, DUP = 13, SWAP = 14, POP = 15, IFZERO = 16, IFLESS = 17, GOTO = 18, RETURN = 19, INC = 20;
    static final List<String> NAMES = List.of("CONST", "LOAD", "STORE", "ADD", "SUB", "MUL", "DIV", "AND", "OR", "XOR", "SHL", "SHR",
        "NEG", "DUP", "SWAP", "POP", "IFZERO", "IFLESS", "GOTO", "RETURN", "INC");
    static final String SIGNS = "+-*/&|^<>";
    /** Ints that lie outside any range of numbers of blocks, slots or places. */
    static final int[] FAR = {-1, -2, 24, 25, 100, MIN, MIN + 1, MAX};

    private static String sentence = "no sentence yet";
    private static int sentences = 0;
    private static int asked = 0;
    private static int wrong = 0;

    /** All that is due from here on is due by this sentence of the document. */
    static void of(String words) {
        sentence = words;
        sentences++;
    }

    static void due(String what, long got, long want) {
        due(what, Long.toString(got), Long.toString(want));
    }

    static void due(String what, boolean got, boolean want) {
        due(what, Boolean.toString(got), Boolean.toString(want));
    }

    static void due(String what, String got, String want) {
        asked++;
        if (!got.equals(want)) {
            wrong++;
            System.out.println("\"" + sentence + "\": " + what + " answered " + got + ", due is " + want);
        }
    }

    static void end() {
        String all = sentences + " sentences with " + asked + " answers";
        System.out.println(wrong == 0 ? all + " hold" : wrong + " answers of " + all + " are not as due");
        if (wrong != 0) {
            System.exit(1);
        }
    }

    static int number(String word) {
        return word.equals("MIN") ? MIN : word.equals("MAX") ? MAX : Integer.parseInt(word);
    }

    /** Emits code such as "LOAD 0; INC 4 -1; RETURN"; an operand that is left out is 0. */
    static void write(GraphCompiler g, String code) {
        int place = g.count(0);
        for (String part : code.split(";")) {
            String[] words = part.trim().split(" ");
            if (!words[0].isEmpty()) {
                int a = words.length > 1 ? number(words[1]) : 0;
                int b = words.length > 2 ? number(words[2]) : 0;
                due("emit of " + part.trim(), g.emit(NAMES.indexOf(words[0]), a, b), place);
                place++;
            }
        }
    }

    static GraphCompiler written(String code) {
        GraphCompiler g = new GraphCompiler();
        write(g, code);
        return g;
    }

    static GraphCompiler compiled(int blocks, String code) {
        GraphCompiler g = written(code);
        due("compile of " + code, g.compile(), blocks);
        return g;
    }

    /** In place of what is written and compiled. */
    static void rewrite(GraphCompiler g, int blocks, String code) {
        g.clear();
        write(g, code);
        due("compile of " + code, g.compile(), blocks);
    }

    static void bad(int place, String code) {
        GraphCompiler g = written(code);
        due("compile of " + code, g.compile(), BAD);
        due("badAt of " + code, g.badAt(), place);
    }

    static void good(String code) {
        GraphCompiler g = written(code);
        due("compile of " + code + " is no BAD", g.compile() > 0, true);
        due("badAt of " + code, g.badAt(), -1);
    }

    static String times(int n, String part) {
        return part.concat("; ").repeat(n);
    }

    /** What a run with all the fuel there may be answers. */
    static long answer(String code, int... in) {
        GraphCompiler g = written(code);
        due("compile of " + code + " is no BAD", g.compile() > 0, true);
        return g.run(in.length > 0 ? in[0] : 0, in.length > 1 ? in[1] : 0, in.length > 2 ? in[2] : 0, in.length > 3 ? in[3] : 0, 500);
    }

    static String textOf(GraphCompiler g, int block, int slot) {
        StringBuilder letters = new StringBuilder();
        int length = g.text(block, slot, -1);
        for (int i = 0; i < length; i++) {
            letters.append((char) g.text(block, slot, i));
        }
        return length < 0 ? "REFUSED" : letters.toString();
    }

    /** The TEXT of the one value that the code, which lacks an end, leaves on the stack. */
    static String made(String code) {
        return textOf(compiled(1, code + "; STORE 7; CONST 0; RETURN"), 0, 7);
    }

    static String made(String x, String y, int op) {
        return made(x + "; " + y + "; " + NAMES.get(op));
    }

    /** One result, whether the operands are CONSTs or are known to the run alone. */
    static void calculates(int op, int x, int y, long want) {
        String name = NAMES.get(op);
        String of = x + " " + name + " " + y;
        due(of + " of CONSTs", made("CONST " + x, "CONST " + y, op), Long.toString(want));
        due(of + " in a run", answer("LOAD 0; LOAD 1; " + name + "; RETURN", x, y), want);
        due(of + " of CONSTs in a run", answer("CONST " + x + "; CONST " + y + "; " + name + "; RETURN"), want);
    }

    /** What is to be asked of what is compiled, in some seventy calls for three blocks. */
    static String answers(GraphCompiler g) {
        StringBuilder all = new StringBuilder();
        int blocks = g.count(1);
        int[] slots = {0, 1, 4, 8};
        for (int block = 0; block < blocks; block++) {
            int[] numbers = {g.leader(block), g.height(block), g.follower(block, 0), g.follower(block, 1), g.reached(block) ? 1 : 0,
                g.nodes(block), g.pinned(block), g.saved(block)};
            all.append(Arrays.toString(numbers));
            for (int slot : slots) {
                all.append(g.known(block, slot)).append(' ').append(g.outcome(block, slot)).append(' ').append(g.text(block, slot, -1)).append(' ');
            }
        }
        return all.append(blocks).append(' ').append(g.count(2)).append(' ').append(g.run(7, 3, 2, 1, 100)).append(' ').append(g.count(3)).toString();
    }
}
