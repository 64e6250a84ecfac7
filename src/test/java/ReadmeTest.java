import java.io.IOException;
import java.lang.reflect.Field;
import java.lang.reflect.Method;
import java.lang.reflect.Modifier;
import java.net.URI;
import java.net.URL;
import java.net.URLClassLoader;
import java.nio.file.Files;
import java.nio.file.Path;
import java.util.Arrays;
import java.util.List;
import java.util.Set;
import java.util.TreeSet;
import java.util.regex.Matcher;
import java.util.regex.Pattern;
import java.util.stream.Stream;
import javax.tools.JavaCompiler;
import javax.tools.JavaFileObject;
import javax.tools.SimpleJavaFileObject;
import javax.tools.ToolProvider;

/** README.md against the project as it stands: its example, its calls, its refusals and its list of tests. */
public final class ReadmeTest {
    /** The answers of the example, statement by statement, from init() on. */
    private static final int[] EXAMPLE = {0, 1, 3, 1, 3, 1, 3, 0, 1, 1, 1, 1};
    /** What its last lines say: the vouchers, the messages that stand, the steps of both ENDS. */
    private static final int[] AFTER = {100, 0, 3, 3};

    private static String readme = "";

    public static void main(String[] args) throws Exception {
        readme = Files.readString(Path.of("README.md"));
        example();
        calls();
        refusals();
        tests();
        Checks.end();
    }

    private static void so(String what, boolean is) {
        Checks.due(what, is ? 1 : 0, 1);
    }

    private static Set<String> allThatMatch(String pattern) {
        Set<String> all = new TreeSet<>();
        Matcher found = Pattern.compile(pattern).matcher(readme);
        while (found.find()) {
            all.add(found.group(1));
        }
        return all;
    }

    // ---- the example

    private static void example() throws Exception {
        Matcher block = Pattern.compile("(?s)```java\n(.*?)```").matcher(readme);
        so("there is an example", block.find());
        int[] got = run(sourceOf(block.group(1)));
        for (int i = 0; i < EXAMPLE.length; i++) {
            Checks.due("answer " + i + " of the example", got[i], EXAMPLE[i]);
        }
        for (int i = 0; i < AFTER.length; i++) {
            Checks.due("question " + i + " after the example", got[EXAMPLE.length + i], AFTER[i]);
        }
        Checks.due("answers of the example", got.length, EXAMPLE.length + AFTER.length);
    }

    /** Each statement stays as it is, but for its answer, which is kept. */
    private static String sourceOf(String block) {
        StringBuilder code = new StringBuilder("public final class Example { public static int[] all() {\n"
            + "java.util.List<Integer> kept = new java.util.ArrayList<>();\n");
        for (String line : block.split("\n")) {
            String statement = line.replaceAll("//.*", "").trim();
            if (statement.startsWith("x.")) {
                statement = "kept.add(" + statement.substring(0, statement.length() - 1) + ");";
            }
            code.append(statement).append('\n');
            if (statement.startsWith("int ")) {
                code.append("kept.add(").append(statement.split(" ")[1]).append(");\n");
            }
        }
        return code + "kept.addAll(java.util.List.of(x.vouchers(channel, 1, 1), x.count(4), x.end(channel, 0, 0),"
            + " x.end(channel, 1, 0)));\nreturn kept.stream().mapToInt(i -> i).toArray(); } }\n";
    }

    private static int[] run(String source) throws Exception {
        Path out = Files.createTempDirectory("readme");
        try (URLClassLoader loader = new URLClassLoader(new URL[] {out.toUri().toURL()})) {
            boolean compiled = isCompiled(source, out);
            so("the example compiles", compiled);
            return compiled ? (int[]) loader.loadClass("Example").getMethod("all").invoke(null)
                : new int[EXAMPLE.length + AFTER.length];
        } finally {
            Files.deleteIfExists(out.resolve("Example.class"));
            Files.deleteIfExists(out);
        }
    }

    private static boolean isCompiled(String source, Path out) {
        JavaFileObject file = new SimpleJavaFileObject(URI.create("mem:///Example.java"), JavaFileObject.Kind.SOURCE) {
            @Override
            public CharSequence getCharContent(boolean ignoreEncodingErrors) {
                return source;
            }
        };
        JavaCompiler compiler = ToolProvider.getSystemJavaCompiler();
        List<String> options = List.of("-d", out.toString(), "-cp", System.getProperty("java.class.path"));
        return compiler.getTask(null, null, null, options, null, List.of(file)).call();
    }

    // ---- the tables

    private static void calls() {
        Set<String> due = new TreeSet<>();
        for (Method method : BridgeClients.class.getDeclaredMethods()) {
            if (Modifier.isPublic(method.getModifiers())) {
                due.add(method.getName() + " of " + method.getParameterCount());
            }
        }
        Set<String> got = new TreeSet<>();
        for (String call : allThatMatch("(?m)^\\| `(\\w+\\([^)]*\\))` \\|")) {
            String given = call.substring(call.indexOf('(') + 1, call.length() - 1);
            got.add(call.substring(0, call.indexOf('(')) + " of " + (given.isEmpty() ? 0 : given.split(",").length));
        }
        so("the calls " + got + " are " + due, got.equals(due));
    }

    private static void refusals() throws IllegalAccessException {
        Set<String> due = new TreeSet<>();
        for (Field field : BridgeClients.class.getFields()) {
            due.add(field.getName() + "` | " + field.getInt(null));
        }
        Set<String> got = allThatMatch("(?m)^\\| `([A-Z]+` \\| -\\d+) \\|");
        so("the refusals " + got + " are " + due, got.equals(due));
    }

    private static void tests() throws IOException {
        Set<String> due = new TreeSet<>();
        try (Stream<Path> files = Files.list(Path.of("src/test/java"))) {
            files.map(file -> file.getFileName().toString()).filter(name -> name.endsWith("Test.java"))
                .forEach(name -> due.add(name.substring(0, name.length() - ".java".length())));
        }
        Set<String> got = allThatMatch("(?m)^\\| `(\\w+Test)` \\|");
        so("the tests " + got + " are " + due, got.equals(due));
        for (String helper : Arrays.asList("Checks", "Scenes", "PlainBridge")) {
            so(helper + " is told of", readme.contains("`" + helper + "`"));
        }
    }
}
