import java.lang.reflect.InvocationTargetException;
import java.lang.reflect.Method;
import java.util.HashMap;
import java.util.Map;

/** Calls of the face by their names, on the program or on the plain one. */
final class Faces {
    private static final Map<String, Map<String, Method>> METHODS = new HashMap<>();

    /** What the call answers, or the exception that it throws. */
    static Object call(Object hall, String name, Object... arguments) {
        try {
            return method(hall.getClass(), name).invoke(hall, arguments);
        } catch (InvocationTargetException e) {
            return e.getCause();
        } catch (IllegalAccessException e) {
            throw new AssertionError(e);
        }
    }

    static long ask(Object hall, String name, Object... arguments) {
        Object got = call(hall, name, arguments);
        if (got instanceof Number number) {
            return number.longValue();
        }
        throw new AssertionError(name + " answered " + got);
    }

    private static Method method(Class<?> type, String name) {
        return METHODS.computeIfAbsent(type.getName(), key -> methodsOf(type)).get(name);
    }

    private static Map<String, Method> methodsOf(Class<?> type) {
        Map<String, Method> all = new HashMap<>();
        for (Method method : GantryHall.class.getMethods()) {
            if (method.getDeclaringClass() == GantryHall.class) {
                try {
                    Method one = type.getDeclaredMethod(method.getName(), method.getParameterTypes());
                    one.setAccessible(true);
                    all.put(method.getName(), one);
                } catch (NoSuchMethodException e) {
                    throw new AssertionError(e);
                }
            }
        }
        return all;
    }

    private Faces() {
    }
}
