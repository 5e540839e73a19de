import java.io.IOException;
import java.lang.reflect.InvocationTargetException;
import java.lang.reflect.Method;
import java.lang.reflect.Modifier;
import java.net.URL;
import java.net.URLClassLoader;
import java.nio.file.Files;
import java.nio.file.Path;
import java.util.ArrayList;
import java.util.List;
import java.util.Set;
import java.util.TreeSet;
import java.util.regex.Matcher;
import java.util.regex.Pattern;
import java.util.stream.Stream;
import javax.tools.ToolProvider;

/**
 * The Java that README.md shows: it is compiled as it stands there, but for a check behind each
 * call, and each call must come to what its comment says.
 */
public final class ReadmeTest {
    private static final Path README = Path.of("README.md");
    private static final Path TESTS = Path.of("src/test/java");
    private static final Pattern BLOCK = Pattern.compile("```java\n(.*?)```", Pattern.DOTALL);
    private static final Pattern CALL = Pattern.compile(
            "(?:int (?<variable>\\w+) = )?(?<call>calls\\.(?<name>\\w+)\\([^;]*\\));"
                    + "(?:\\s+// (?<throws>throws )?(?<due>-?\\w+)(?::.*)?)?");

    private static final List<String> ROWS = new ArrayList<>();
    private static final Set<String> SHOWN = new TreeSet<>();
    private static int checked = 0;
    private static int wrong = 0;

    public static void main(String[] args) throws Exception {
        String readme = Files.readString(README);
        run(source(readme));
        check("calls that are shown", SHOWN.toString(), faceNames().toString());
        check("tests that are named", namedTests(readme).toString(), testNames().toString());
        System.out.println(checked + " rows of README.md, " + wrong + " wrong");
        if (wrong > 0 || checked == 0) {
            System.exit(1);
        }
    }

    /** For the compiled blocks: a row came to this. */
    public static void came(int row, String due, Object got) {
        checked++;
        check(ROWS.get(row), got.toString(), due);
    }

    private static void check(String what, String got, String due) {
        if (!got.equals(due)) {
            wrong++;
            System.out.println("README.md, " + what + ": got " + got + ", due is " + due);
        }
    }

    private static String source(String readme) {
        StringBuilder source = new StringBuilder(
                "public final class Shown {\n    public static void main(String[] args) {\n");
        Matcher blocks = BLOCK.matcher(readme);
        while (blocks.find()) {
            source.append("{\n");
            for (String row : blocks.group(1).split("\n")) {
                source.append(withCheck(row.trim())).append("\n");
            }
            source.append("}\n");
        }
        return source.append("    }\n}\n").toString();
    }

    private static String withCheck(String row) {
        Matcher call = CALL.matcher(row);
        if (!call.matches()) {
            boolean isCall = row.contains("calls.");
            check(row, isCall ? "a call in a form that is not known" : "no call", "no call");
            return row;
        }
        SHOWN.add(call.group("name"));
        ROWS.add(row);
        String came = "ReadmeTest.came(" + (ROWS.size() - 1) + ", ";
        String due = call.group("due");
        if (due == null) {
            check(row, isVoid(call.group("name")) ? "no answer" : "an answer", "no answer");
            return row;
        }
        if (call.group("throws") != null) {
            String nothing = came + quoted(due) + ", \"nothing thrown\");";
            String thrown = came + quoted(due) + ", e.getClass().getSimpleName());";
            return "try { " + call.group("call") + "; " + nothing
                    + " } catch (RuntimeException e) { " + thrown + " }";
        }
        String variable = call.group("variable");
        String want = "String.valueOf(" + due + "), ";
        return variable == null ? came + want + call.group("call") + ");"
                : row.substring(0, row.indexOf(';') + 1) + " " + came + want + variable + ");";
    }

    private static String quoted(String text) {
        return "\"" + text + "\"";
    }

    private static boolean isVoid(String name) {
        return Stream.of(RollCalls.class.getDeclaredMethods())
                .anyMatch(one -> one.getName().equals(name) && one.getReturnType() == void.class);
    }

    private static void run(String source) throws Exception {
        Path directory = Files.createTempDirectory("readme");
        Path file = directory.resolve("Shown.java");
        Files.writeString(file, source);
        int failed = ToolProvider.getSystemJavaCompiler().run(null, null, null, "-cp",
                System.getProperty("java.class.path"), "-d", directory.toString(), file.toString());
        check("compiled", failed == 0 ? "yes" : source, "yes");
        if (failed == 0) {
            runCompiled(directory);
        }
        Files.deleteIfExists(directory.resolve("Shown.class"));
        Files.delete(file);
        Files.delete(directory);
    }

    private static void runCompiled(Path directory) throws Exception {
        URL[] path = {directory.toUri().toURL()};
        try (URLClassLoader loader = new URLClassLoader(path)) {
            Method main = loader.loadClass("Shown").getMethod("main", String[].class);
            main.invoke(null, (Object) new String[0]);
        } catch (InvocationTargetException e) {
            check("run behind row " + checked, e.getCause().toString(), "nothing thrown");
        }
    }

    private static Set<String> faceNames() {
        Set<String> names = new TreeSet<>();
        for (Method method : RollCalls.class.getDeclaredMethods()) {
            if (Modifier.isPublic(method.getModifiers())) {
                names.add(method.getName());
            }
        }
        return names;
    }

    private static Set<String> namedTests(String readme) {
        Set<String> names = new TreeSet<>();
        Matcher named = Pattern.compile("`(\\w+Test)`").matcher(readme);
        while (named.find()) {
            names.add(named.group(1));
        }
        return names;
    }

    private static Set<String> testNames() throws IOException {
        Set<String> names = new TreeSet<>();
        try (Stream<Path> files = Files.list(TESTS)) {
            files.map(file -> file.getFileName().toString())
                    .filter(name -> name.endsWith("Test.java"))
                    .forEach(name -> names.add(name.replace(".java", "")));
        }
        return names;
    }
}
