import java.lang.reflect.Constructor;
import java.lang.reflect.Field;
import java.lang.reflect.Method;
import java.lang.reflect.Modifier;
import java.util.Arrays;
import java.util.Set;
import java.util.TreeSet;
import java.util.stream.Collectors;

/** The class has the document's public face, to the letter, and nothing else that can be seen. */
public final class FaceTest {
    private static final Set<String> FACE = new TreeSet<>(Arrays.asList(
            "int person() Unsupported",
            "void enter(int,int) IllegalArgument IllegalState Unsupported",
            "void leave(int) IllegalArgument IllegalState Unsupported",
            "void guests(int,int) IllegalArgument IndexOutOfBounds",
            "int roll(int) IllegalArgument IllegalState Unsupported",
            "int answer(int,int,int) IllegalArgument IllegalState Unsupported",
            "int seen(int,int) IllegalArgument IndexOutOfBounds IllegalState Unsupported",
            "int round(int) IllegalArgument IllegalState",
            "int rollAt(int,int) IllegalArgument",
            "int missing(int,int) IllegalArgument IndexOutOfBounds IllegalState",
            "int twice(int,int) IllegalArgument",
            "int mayday(int,int) IllegalArgument IndexOutOfBounds IllegalState Unsupported",
            "void answered(int) IllegalArgument IllegalState",
            "int maydayAt(int,int) IllegalArgument",
            "int evacuate(int) IndexOutOfBounds IllegalState Unsupported",
            "int confirm(int) IllegalArgument IllegalState",
            "int late(int,int) IllegalArgument IndexOutOfBounds",
            "int tick(int) IndexOutOfBounds",
            "int was(int,int) IllegalArgument IndexOutOfBounds",
            "int count(int) IllegalArgument"));

    private static int wrong = 0;

    public static void main(String[] args) {
        Class<?> face = RollCalls.class;
        check("public and final", face.getModifiers(), Modifier.PUBLIC | Modifier.FINAL);
        check("what stands above it", face.getSuperclass(), Object.class);
        check("interfaces", face.getInterfaces().length, 0);
        checkConstructors(face);
        checkMethods(face);
        checkFields(face);
        checkInside(face);
        System.out.println(wrong == 0 ? "the face is the document's" : wrong + " wrong");
        if (wrong > 0) {
            System.exit(1);
        }
    }

    private static void check(String what, Object got, Object want) {
        if (!got.equals(want)) {
            wrong++;
            System.out.println(what + ": got " + got + ", due is " + want);
        }
    }

    private static void checkConstructors(Class<?> face) {
        Constructor<?>[] all = face.getDeclaredConstructors();
        check("constructors", all.length, 1);
        check("its parameters", all[0].getParameterCount(), 0);
        check("its modifiers", all[0].getModifiers(), Modifier.PUBLIC);
    }

    private static void checkMethods(Class<?> face) {
        Set<String> visible = new TreeSet<>();
        Set<String> visibleNames = new TreeSet<>();
        Set<String> hiddenNames = new TreeSet<>();
        for (Method method : face.getDeclaredMethods()) {
            if (Modifier.isPrivate(method.getModifiers())) {
                hiddenNames.add(method.getName());
            } else {
                check(method.getName(), method.getModifiers(), Modifier.PUBLIC);
                visible.add(described(method));
                visibleNames.add(method.getName());
            }
        }
        check("methods", visible, FACE);
        hiddenNames.retainAll(visibleNames);
        check("private methods with a public one's name", hiddenNames, Set.of());
    }

    private static String described(Method method) {
        String parameters = Arrays.stream(method.getParameterTypes())
                .map(Class::getName).collect(Collectors.joining(","));
        String thrown = Arrays.stream(method.getExceptionTypes())
                .map(kind -> " " + kind.getSimpleName().replaceAll("(Operation)?Exception$", ""))
                .collect(Collectors.joining());
        return method.getReturnType() + " " + method.getName() + "(" + parameters + ")" + thrown;
    }

    private static void checkFields(Class<?> face) {
        for (Field field : face.getDeclaredFields()) {
            check("private " + field, Modifier.isPrivate(field.getModifiers()), true);
            boolean state = Modifier.isStatic(field.getModifiers())
                    && !Modifier.isFinal(field.getModifiers());
            check("static state " + field, state, false);
        }
    }

    private static void checkInside(Class<?> face) {
        for (Class<?> inside : face.getDeclaredClasses()) {
            int modifiers = inside.getModifiers();
            check("static " + inside, Modifier.isStatic(modifiers), true);
            check("hidden " + inside,
                    Modifier.isPublic(modifiers) || Modifier.isProtected(modifiers), false);
        }
    }
}
