import java.lang.reflect.InvocationTargetException;
import java.lang.reflect.Method;
import java.util.HashMap;
import java.util.Map;

/** Calls methods by their names and tells the answers as texts, so that they can be compared. */
final class Calls {
    private static final Map<String, Method> METHODS = new HashMap<>();

    private Calls() {
    }

    /** The answer of a call: a number (a boolean counts 1 or 0), or "throws." and the exception's name. */
    static String answer(Object target, String name, long... args) {
        Method method = METHODS.computeIfAbsent(target.getClass().getName() + "." + name, k -> find(target, name));
        Class<?>[] types = method.getParameterTypes();
        if (types.length != args.length) {
            throw new IllegalStateException(name + " takes " + types.length + " arguments");
        }
        Object[] values = new Object[args.length];
        for (int i = 0; i < args.length; i++) {
            if (types[i] == long.class) {
                values[i] = args[i];
            } else {
                values[i] = Math.toIntExact(args[i]);
            }
        }
        try {
            Object got = method.invoke(target, values);
            return got instanceof Boolean b ? (b ? "1" : "0") : got.toString();
        } catch (InvocationTargetException e) {
            return "throws." + e.getCause().getClass().getSimpleName();
        } catch (IllegalAccessException e) {
            throw new IllegalStateException(e);
        }
    }

    private static Method find(Object target, String name) {
        for (Method method : target.getClass().getDeclaredMethods()) {
            if (method.getName().equals(name)) {
                method.setAccessible(true);
                return method;
            }
        }
        throw new IllegalStateException("no method " + name);
    }
}
