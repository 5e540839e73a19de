import java.lang.reflect.InvocationTargetException;
import java.lang.reflect.Method;
import java.util.HashMap;
import java.util.Map;

/** What a call comes to, as a text. */
final class Outcome {
    static final String NOTHING = "nothing";

    /** No two methods of the face bear one name. */
    private static final Map<String, Method> METHODS = new HashMap<>();

    private Outcome() {
    }

    /** The number that the call answers, "nothing", or the class that it throws by a throw. */
    static String of(RollCalls object, String name, int... arguments) {
        Object[] boxed = new Object[arguments.length];
        for (int i = 0; i < boxed.length; i++) {
            boxed[i] = arguments[i];
        }
        try {
            Object answer = METHODS.computeIfAbsent(name, Outcome::method).invoke(object, boxed);
            return answer == null ? NOTHING : answer.toString();
        } catch (InvocationTargetException e) {
            return thrown(e.getCause());
        } catch (IllegalAccessException e) {
            throw new AssertionError(e);
        }
    }

    /** Only a throw statement of the class counts: the library throws some of the same classes. */
    private static String thrown(Throwable cause) {
        StackTraceElement[] trace = cause.getStackTrace();
        boolean byTheClass = trace.length > 0
                && trace[0].getClassName().matches("RollCalls(\\$.*)?");
        String name = cause.getClass().getSimpleName();
        return byTheClass ? name : name + " of the machine";
    }

    private static Method method(String name) {
        for (Method method : RollCalls.class.getMethods()) {
            if (method.getName().equals(name)) {
                return method;
            }
        }
        throw new AssertionError("no method " + name);
    }

    /** The same of a call that is written out: "enter(0, 3)". */
    static String ofWritten(RollCalls object, String call) {
        return of(object, writtenName(call), writtenArguments(call));
    }

    static String writtenName(String call) {
        return call.substring(0, call.indexOf('('));
    }

    static int[] writtenArguments(String call) {
        String inside = call.substring(call.indexOf('(') + 1, call.lastIndexOf(')')).trim();
        String[] written = inside.isEmpty() ? new String[0] : inside.split(",");
        int[] arguments = new int[written.length];
        for (int i = 0; i < arguments.length; i++) {
            arguments[i] = Integer.parseInt(written[i].trim());
        }
        return arguments;
    }

    static boolean isRefusal(String outcome) {
        return outcome.endsWith("Exception");
    }
}
