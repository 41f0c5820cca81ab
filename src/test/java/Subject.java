import java.lang.reflect.InvocationTargetException;
import java.lang.reflect.Method;
import java.util.HashMap;
import java.util.Map;

/** A new DutyRota whose calls are told by name; the document lets it be called 512 times. */
final class Subject {
    private static final int MOST_CALLS = 512;
    private static final Map<String, Method> FACE = face();

    private final DutyRota rota = new DutyRota();
    private int calls = 0;

    private static Map<String, Method> face() {
        Map<String, Method> face = new HashMap<>();
        for (Method method : DutyRota.class.getMethods()) {
            face.put(method.getName(), method);
        }
        return face;
    }

    /** The answer as a text, or throws.Name of what the call threw. */
    String call(String name, long... arguments) {
        calls++;
        if (calls > MOST_CALLS) {
            throw new IllegalStateException("the test calls one object more than 512 times");
        }
        Method method = FACE.get(name);
        try {
            return String.valueOf(method.invoke(rota, boxed(method, arguments)));
        } catch (InvocationTargetException e) {
            return "throws." + e.getCause().getClass().getSimpleName();
        } catch (IllegalAccessException e) {
            throw new IllegalStateException(name + " is not public", e);
        }
    }

    /** The answer of a call that throws nothing. */
    long ask(String name, long... arguments) {
        String answer = call(name, arguments);
        if (answer.startsWith("throws.")) {
            throw new IllegalStateException(told(name, arguments) + " " + answer);
        }
        return Long.parseLong(answer);
    }

    static String told(String name, long... arguments) {
        StringBuilder text = new StringBuilder(name).append('(');
        for (int a = 0; a < arguments.length; a++) {
            text.append(a == 0 ? "" : ", ").append(arguments[a]);
        }
        return text.append(')').toString();
    }

    private static Object[] boxed(Method method, long[] arguments) {
        Class<?>[] types = method.getParameterTypes();
        Object[] boxes = new Object[arguments.length];
        for (int a = 0; a < arguments.length; a++) {
            boxes[a] = types[a] == long.class ? (Object) arguments[a] : (Object) Math.toIntExact(arguments[a]);
        }
        return boxes;
    }
}
