import java.lang.reflect.InvocationTargetException;
import java.lang.reflect.Method;
import java.lang.reflect.Modifier;
import java.util.Arrays;
import java.util.Comparator;
import java.util.HashMap;
import java.util.Map;

/** Calls by the name of the method. */
final class Calls {
    private static final Map<Class<?>, Map<String, Method>> KNOWN = new HashMap<>();

    private Calls() {
    }

    /** The public methods of a class, in the order of their names. */
    static Method[] methodsOf(Class<?> type) {
        return Arrays.stream(type.getDeclaredMethods())
            .filter(method -> Modifier.isPublic(method.getModifiers()))
            .sorted(Comparator.comparing(Method::getName))
            .toArray(Method[]::new);
    }

    /** What the call answers as a text, or "throws" and the exact class of what it throws. */
    static String outcome(Object object, String name, Object... arguments) {
        Method method = namesOf(object.getClass()).get(name);
        if (method == null) {
            return "is not there";
        }
        try {
            return String.valueOf(method.invoke(object, arguments));
        } catch (InvocationTargetException thrown) {
            return Due.describe(thrown.getCause());
        } catch (IllegalAccessException closed) {
            return "cannot be called";
        }
    }

    private static Map<String, Method> namesOf(Class<?> type) {
        Map<String, Method> names = KNOWN.get(type);
        if (names == null) {
            names = new HashMap<>();
            for (Method method : methodsOf(type)) {
                names.put(method.getName(), method);
            }
            KNOWN.put(type, names);
        }
        return names;
    }
}
