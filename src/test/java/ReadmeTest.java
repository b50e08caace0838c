import java.io.IOException;
import java.lang.reflect.Field;
import java.lang.reflect.Method;
import java.lang.reflect.Modifier;
import java.nio.file.Files;
import java.nio.file.Path;
import java.util.Arrays;
import java.util.regex.Matcher;
import java.util.regex.Pattern;

/** README.md: its example answers what stands behind each call, and it names the whole face; run from the project's directory. */
public final class ReadmeTest {
    static final Pattern MAKING = Pattern.compile("GraphCompiler g = new GraphCompiler\\(\\);");
    static final Pattern CALL = Pattern.compile("g\\.(\\w+)\\(([-\\d, ]*)\\); +// ('.'|[-\\w]+)(: .*)?");

    static int wrong = 0;
    static int calls = 0;

    static void must(boolean holds, String what) {
        if (!holds) {
            wrong++;
            System.out.println("README.md: " + what);
        }
    }

    static Method method(String name) {
        return Arrays.stream(GraphCompiler.class.getMethods()).filter(m -> m.getName().equals(name)).findFirst().orElse(null);
    }

    /** A number, a character in quotes, true or false, or the name of a constant. */
    static String meant(String word) throws ReflectiveOperationException {
        if (word.startsWith("'")) {
            return Integer.toString(word.charAt(1));
        }
        return word.matches("[A-Z]+") ? GraphCompiler.class.getField(word).get(null).toString() : word;
    }

    static void call(GraphCompiler g, String line, Matcher parts) throws ReflectiveOperationException {
        calls++;
        Method method = method(parts.group(1));
        must(method != null, "no such method: " + line);
        if (method != null) {
            String words = parts.group(2);
            Object[] in = words.isEmpty() ? new Object[0] : Arrays.stream(words.split(", ")).map(Integer::valueOf).toArray();
            String got = method.invoke(g, in).toString();
            must(got.equals(meant(parts.group(3))), line + " answered " + got);
        }
    }

    static void example(String readme) throws ReflectiveOperationException {
        int begin = readme.indexOf("```java\n");
        must(begin >= 0, "there is an example");
        String code = readme.substring(begin + 8, readme.indexOf("```\n", begin + 8));
        GraphCompiler g = null;
        for (String line : code.split("\n")) {
            Matcher parts = CALL.matcher(line);
            if (MAKING.matcher(line).matches()) {
                g = new GraphCompiler();
            } else if (g != null && parts.matches()) {
                call(g, line, parts);
            } else {
                must(false, "neither the making of an object nor a call with its answer: " + line);
            }
        }
        must(calls > 0, "the example has calls");
    }

    static void names(String readme) throws IllegalAccessException {
        String example = readme.substring(readme.indexOf("```java\n"));
        must(readme.contains("`new GraphCompiler()`"), "how an object is made");
        for (Method method : GraphCompiler.class.getDeclaredMethods()) {
            if (Modifier.isPublic(method.getModifiers())) {
                String shape = "| `" + method.getReturnType() + " " + method.getName() + "(";
                must(readme.contains(shape), "what " + method.getName() + " is for");
                must(example.contains("g." + method.getName() + "("), method.getName() + " in the example");
            }
        }
        for (Field field : GraphCompiler.class.getFields()) {
            must(readme.contains("| `" + field.getName() + "` | " + field.get(null) + " |"), "what " + field.getName() + " tells");
        }
        must(readme.contains("`.ci/run`"), "how the tests are run");
    }

    static void tests(String readme) throws IOException {
        try (var files = Files.list(Path.of("src/test/java"))) {
            for (Path file : files.toList()) {
                String name = file.getFileName().toString().replace(".java", "");
                must(readme.contains("`" + name + "`"), "what " + name + " looks at");
            }
        }
    }

    public static void main(String[] args) throws IOException, ReflectiveOperationException {
        String readme = Files.readString(Path.of("README.md"));
        example(readme);
        names(readme);
        tests(readme);
        System.out.println(wrong == 0 ? calls + " calls of README.md answer as it says" : wrong + " things are not so");
        if (wrong != 0) {
            System.exit(1);
        }
    }
}
