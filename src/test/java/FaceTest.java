import java.io.IOException;
import java.lang.reflect.Field;
import java.lang.reflect.Member;
import java.lang.reflect.Method;
import java.lang.reflect.Modifier;
import java.nio.file.Files;
import java.nio.file.Path;
import java.util.Arrays;
import java.util.List;
import java.util.Set;
import java.util.TreeSet;
import java.util.regex.Pattern;

/** The document's face, and those rules of LANGUAGE.md that can be seen from outside; run from the project's directory. */
public final class FaceTest {
    static final List<String> METHODS = List.of("int emit(int, int, int)", "int patch(int, int, int, int)", "int clear()", "int compile()",
        "int badAt()", "int leader(int)", "int height(int)", "int follower(int, int)", "boolean reached(int)", "long known(int, int)",
        "int nodes(int)", "int pinned(int)", "int saved(int)", "long outcome(int, int)", "int text(int, int, int)",
        "long run(int, int, int, int, int)", "int count(int)");
    static final List<String> CONSTANTS = List.of("int REFUSED = -1", "int BAD = -2", "int DONE = 0", "long NONE = 1000000000000",
        "long TRAP = 1000000000001", "long TIRED = 1000000000002");
    static final Set<Class<?>> STATIC_TYPES = Set.of(int.class, long.class, boolean.class, char.class, String.class, int[].class,
        long[].class, char[].class, byte[].class);
    static final List<String> UNWANTED = List.of("\\bthrow\\b", "\\btry\\b", "\\bcatch\\b", "\\bsynchronized\\b", "\\bassert\\b", "->", "::",
        "\\bpackage\\b", "\\bThread\\b", "\\bRandom\\b", "\\bSystem\\.(?!arraycopy)", "Exact\\b", "\\bhashCode\\b", "\\bstatic \\{",
        "[^\\x00-\\x7f]");

    static int wrong = 0;

    static void must(boolean holds, String what) {
        if (!holds) {
            wrong++;
            System.out.println("not so: " + what);
        }
    }

    static String shape(Method method) {
        String types = Arrays.toString(Arrays.stream(method.getParameterTypes()).map(Class::getSimpleName).toArray());
        return method.getReturnType().getSimpleName() + " " + method.getName() + "(" + types.substring(1, types.length() - 1) + ")";
    }

    static boolean isPrivate(Member member) {
        return Modifier.isPrivate(member.getModifiers());
    }

    static void face() throws IllegalAccessException {
        Class<?> face = GraphCompiler.class;
        must(Modifier.isPublic(face.getModifiers()) && Modifier.isFinal(face.getModifiers()), "the class is public and final");
        must(face.getPackageName().isEmpty(), "no package");
        must(face.getDeclaredConstructors().length == 1 && face.getConstructors().length == 1
            && face.getConstructors()[0].getParameterCount() == 0, "one public constructor without parameters");
        Set<String> methods = new TreeSet<>();
        for (Method method : face.getDeclaredMethods()) {
            if (!isPrivate(method)) {
                must(Modifier.isPublic(method.getModifiers()) && !Modifier.isStatic(method.getModifiers()), shape(method) + " is public");
                methods.add(shape(method));
            }
        }
        must(methods.equals(new TreeSet<>(METHODS)), "the methods are the document's: " + methods);
        Set<String> constants = new TreeSet<>();
        for (Field field : face.getDeclaredFields()) {
            if (!isPrivate(field)) {
                int all = Modifier.PUBLIC | Modifier.STATIC | Modifier.FINAL;
                must(field.getModifiers() == all, field.getName() + " is a public constant");
                constants.add(field.getType().getSimpleName() + " " + field.getName() + " = " + field.get(null));
            }
        }
        must(constants.equals(new TreeSet<>(CONSTANTS)), "the constants are the document's: " + constants);
    }

    static void inside(Class<?> type) {
        Set<String> names = new TreeSet<>();
        for (String method : METHODS) {
            names.add(method.substring(method.indexOf(' ') + 1, method.indexOf('(')));
        }
        for (Method method : type.getDeclaredMethods()) {
            boolean ofFace = type == GraphCompiler.class && Modifier.isPublic(method.getModifiers());
            must(ofFace || !names.contains(method.getName()), method + " bears a name of its own");
            must(method.getParameterCount() <= 7, method + " takes at most seven");
        }
        int own = 0;
        for (Field field : type.getDeclaredFields()) {
            if (Modifier.isStatic(field.getModifiers())) {
                must(Modifier.isFinal(field.getModifiers()) && STATIC_TYPES.contains(field.getType()), field + " is a constant");
            } else {
                own++;
            }
        }
        must(own <= 20, type + " has at most twenty fields");
        must(type == GraphCompiler.class || Modifier.isStatic(type.getModifiers()), type + " is static");
        must(type == GraphCompiler.class || !Modifier.isPublic(type.getModifiers()) && !Modifier.isProtected(type.getModifiers()),
            type + " is not seen from outside");
        for (Class<?> inner : type.getDeclaredClasses()) {
            inside(inner);
        }
    }

    static void source() throws IOException {
        String source = Files.readString(Path.of("src/main/java/GraphCompiler.java"));
        String bare = source.replaceAll("(?s)/\\*.*?\\*/", "").replaceAll("//[^\n]*", "");
        for (String unwanted : UNWANTED) {
            must(!Pattern.compile(unwanted).matcher(bare).find(), "the program has no " + unwanted);
        }
        for (String line : bare.split("\n")) {
            must(!line.startsWith("import ") || line.equals("import java.util.Arrays;"), "allowed: " + line);
        }
    }

    public static void main(String[] args) throws IOException, IllegalAccessException {
        face();
        inside(GraphCompiler.class);
        must(GraphCompiler.class.getDeclaredClasses().length < 12, "at most twelve classes");
        source();
        System.out.println(wrong == 0 ? "the face and the rules hold" : wrong + " things are not so");
        if (wrong != 0) {
            System.exit(1);
        }
    }
}
