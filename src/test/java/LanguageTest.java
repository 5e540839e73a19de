import java.io.IOException;
import java.lang.reflect.Executable;
import java.lang.reflect.Field;
import java.lang.reflect.Modifier;
import java.nio.file.Files;
import java.nio.file.Path;
import java.util.ArrayList;
import java.util.List;
import java.util.Set;
import java.util.TreeSet;
import java.util.regex.Matcher;
import java.util.regex.Pattern;

/** Of the rules of LANGUAGE.md those that can be seen in the class's text, or in the class. */
public final class LanguageTest {
    private static final Path SOURCE = Path.of("src/main/java/RollCalls.java");
    private static final Set<String> LIBRARY = Set.of("String", "StringBuilder", "Integer", "Long",
            "Math", "ArrayList", "List", "Arrays", "Iterator", "Iterable", "Comparable", "Override",
            "System");
    private static final Set<String> THROWN = Set.of("IllegalStateException",
            "IllegalArgumentException", "IndexOutOfBoundsException", "ArithmeticException",
            "UnsupportedOperationException", "NoSuchElementException", "RuntimeException");
    private static final int MOST_CLASSES = 12;
    private static final int MOST_FIELDS = 20;
    private static final int MOST_PARAMETERS = 7;
    private static final int MOST_LINES = 60;

    private static int wrong = 0;

    public static void main(String[] args) throws IOException {
        String text = Files.readString(SOURCE);
        String code = withoutCommentsAndTexts(text);
        checkNone("3: characters above 255", found("[^\\x00-\\xff]", text));
        checkNone("2: lambdas and method references", found("->|::", code));
        checkNone("6: words", found("\\b(try|catch|finally|synchronized|assert)\\b", code));
        checkNone("9: loops without an end",
                found("while \\(true\\)|for \\([^;]*; *;[^)]*\\)", code));
        checkTypes(code);
        checkThrows(code);
        checkMethods(text);
        List<Class<?>> classes = new ArrayList<>(List.of(RollCalls.class.getDeclaredClasses()));
        classes.add(RollCalls.class);
        check("11: classes", classes.size() <= MOST_CLASSES);
        classes.forEach(LanguageTest::checkClass);
        System.out.println(wrong == 0 ? "the class keeps to its language" : wrong + " wrong");
        if (wrong > 0) {
            System.exit(1);
        }
    }

    private static void check(String rule, boolean isKept) {
        if (!isKept) {
            wrong++;
            System.out.println("rule " + rule);
        }
    }

    private static void checkNone(String rule, Set<String> offending) {
        check(rule + " " + offending, offending.isEmpty());
    }

    private static String withoutCommentsAndTexts(String text) {
        return text.replaceAll("\"[^\"\n]*\"", "\"\"")
                .replaceAll("(?s)/\\*.*?\\*/", "").replaceAll("//[^\n]*", "");
    }

    private static Set<String> found(String pattern, String text) {
        Set<String> all = new TreeSet<>();
        Matcher matcher = Pattern.compile(pattern).matcher(text);
        while (matcher.find()) {
            all.add(matcher.group());
        }
        return all;
    }

    /** A word of capitals alone, or with digits and lines, is a constant. */
    private static void checkTypes(String code) {
        checkNone("4: imports", without(found("import [^;]*;", code), Set.of(
                "import java.util.ArrayList;", "import java.util.List;",
                "import java.util.Arrays;", "import java.util.Iterator;")));
        Set<String> types = found("\\b[A-Z][A-Za-z]*[a-z][A-Za-z]*\\b", code);
        types.removeAll(found("\\b(?<=class )\\w+", code));
        checkNone("4: types", without(without(types, LIBRARY), THROWN));
        checkNone("4: of System", without(found("System\\.\\w+", code),
                Set.of("System.arraycopy")));
    }

    private static Set<String> without(Set<String> all, Set<String> allowed) {
        all.removeAll(allowed);
        return all;
    }

    private static void checkThrows(String code) {
        Set<String> throwing = found("\\bthrow\\b[^;]*;", code);
        throwing.removeIf(one -> one.matches("throw new (" + String.join("|", THROWN)
                + ")\\((\"\")?\\);"));
        checkNone("6: throws", throwing);
    }

    private static void checkMethods(String text) {
        Matcher method = Pattern.compile(
                "(?ms)^( {4}| {8})((?:[\\w<>\\[\\]]+ )*)(\\w+)\\([^;{]*\\{\n.*?^\\1\\}\n")
                .matcher(text);
        int methods = 0;
        while (method.find()) {
            methods++;
            String name = method.group(3);
            check("11: the lines of " + name, method.group().split("\n").length <= MOST_LINES);
            boolean isConstructor = Character.isUpperCase(name.charAt(0));
            check("6: a throw in the constructor " + name,
                    !isConstructor || !method.group().contains("throw"));
        }
        check("11: methods seen, " + methods, methods > 50);
    }

    private static void checkClass(Class<?> one) {
        int fields = 0;
        for (Field field : one.getDeclaredFields()) {
            boolean isStatic = Modifier.isStatic(field.getModifiers());
            fields += isStatic ? 0 : 1;
            check("5: " + field, !isStatic || Modifier.isFinal(field.getModifiers()));
        }
        check("11: the fields of " + one, fields <= MOST_FIELDS);
        List<Executable> executables = new ArrayList<>(List.of(one.getDeclaredMethods()));
        executables.addAll(List.of(one.getDeclaredConstructors()));
        for (Executable executable : executables) {
            check("11: the parameters of " + executable,
                    executable.getParameterCount() <= MOST_PARAMETERS);
        }
    }
}
