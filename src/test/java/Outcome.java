import java.lang.reflect.InvocationTargetException;
import java.lang.reflect.Method;
import java.util.Arrays;

/** What a call comes to, as a text. */
final class Outcome {
    static final String NOTHING = "nothing";

    private Outcome() {
    }

    /** The number that the call answers, "nothing", or the class that it throws. */
    static String of(RollCalls object, String name, int... arguments) {
        Class<?>[] types = new Class<?>[arguments.length];
        Arrays.fill(types, int.class);
        try {
            Method method = RollCalls.class.getMethod(name, types);
            Object answer = method.invoke(object, Arrays.stream(arguments).boxed().toArray());
            return answer == null ? NOTHING : answer.toString();
        } catch (InvocationTargetException e) {
            return e.getCause().getClass().getSimpleName();
        } catch (ReflectiveOperationException e) {
            throw new AssertionError(e);
        }
    }
}
