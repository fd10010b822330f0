import java.lang.reflect.InvocationTargetException;
import java.lang.reflect.Method;
import java.lang.reflect.Modifier;
import java.util.Arrays;
import java.util.Comparator;

/** Calls by the name of the method. */
final class Calls {
    private Calls() {
    }

    /** The public methods of a class, in the order of their names. */
    static Method[] methodsOf(Class<?> type) {
        return Arrays.stream(type.getDeclaredMethods())
            .filter(method -> Modifier.isPublic(method.getModifiers()))
            .sorted(Comparator.comparing(Method::getName))
            .toArray(Method[]::new);
    }

    /** What the call answers as a text, or "throws" and the exact class of what it throws. */
    static String outcome(Object object, String name, Object... arguments) {
        for (Method method : object.getClass().getDeclaredMethods()) {
            if (method.getName().equals(name) && Modifier.isPublic(method.getModifiers())) {
                try {
                    return String.valueOf(method.invoke(object, arguments));
                } catch (InvocationTargetException thrown) {
                    return Due.describe(thrown.getCause());
                } catch (IllegalAccessException closed) {
                    return "cannot be called";
                }
            }
        }
        return "is not there";
    }
}
