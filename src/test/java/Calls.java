import java.lang.reflect.InvocationTargetException;
import java.lang.reflect.Method;
import java.lang.reflect.Modifier;
import java.util.ArrayList;
import java.util.Comparator;
import java.util.HashMap;
import java.util.List;
import java.util.Map;

/** Calls by their names, so that the program and the oracle can be asked the same thing. */
final class Calls {
    // To look a method up anew for each of millions of calls would take most of their time.
    private static final Map<String, Method> KNOWN = new HashMap<>();

    private Calls() {
    }

    /** The methods of the program's face, by their names. */
    static List<Method> ofTheFace() {
        List<Method> face = new ArrayList<>();
        for (Method m : PointTables.class.getDeclaredMethods()) {
            if (Modifier.isPublic(m.getModifiers())) {
                face.add(m);
            }
        }
        face.sort(Comparator.comparing(Method::getName));
        return face;
    }

    /** The answer as a text, or what the call throws. */
    static String answer(Object bench, String name, Object... with) {
        try {
            return String.valueOf(method(bench.getClass(), name).invoke(bench, with));
        } catch (InvocationTargetException e) {
            return "throws " + e.getCause().getClass().getSimpleName();
        } catch (IllegalAccessException e) {
            throw new IllegalStateException(e);
        }
    }

    private static Method method(Class<?> c, String name) {
        return KNOWN.computeIfAbsent(c.getName() + "." + name, unknown -> findMethod(c, name));
    }

    private static Method findMethod(Class<?> c, String name) {
        for (Method m : c.getDeclaredMethods()) {
            if (m.getName().equals(name) && Modifier.isPublic(m.getModifiers())) {
                return m;
            }
        }
        throw new IllegalStateException("no method " + name);
    }
}
