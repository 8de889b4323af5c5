import java.lang.reflect.InvocationTargetException;
import java.lang.reflect.Method;
import java.util.ArrayList;
import java.util.Comparator;
import java.util.HashMap;
import java.util.List;
import java.util.Map;

/** The calls of the face by their names, to make them of a TongueSchool or of a SlowSchool. */
final class Face {
    private static final Map<String, Method> FAST = calls(TongueSchool.class);
    private static final Map<String, Method> SLOW = calls(SlowSchool.class);

    private Face() {
    }

    /** No two calls of the face have the same name. */
    private static Map<String, Method> calls(Class<?> school) {
        Map<String, Method> calls = new HashMap<>();
        for (Method method : TongueSchool.class.getMethods()) {
            if (method.getDeclaringClass() == TongueSchool.class) {
                calls.put(method.getName(), sameOf(school, method));
            }
        }
        return calls;
    }

    private static Method sameOf(Class<?> school, Method method) {
        try {
            return school.getMethod(method.getName(), method.getParameterTypes());
        } catch (NoSuchMethodException e) {
            throw new AssertionError(e);
        }
    }

    /** In the order of their names. */
    static List<Method> calls() {
        List<Method> calls = new ArrayList<>(FAST.values());
        calls.sort(Comparator.comparing(Method::getName));
        return calls;
    }

    /** Returns what it answers, or throws what it throws. */
    static Object call(Object school, String name, Object... args) {
        try {
            return (school instanceof SlowSchool ? SLOW : FAST).get(name).invoke(school, args);
        } catch (InvocationTargetException e) {
            if (e.getCause() instanceof RuntimeException thrown) {
                throw thrown;
            }
            throw new AssertionError(name, e.getCause());
        } catch (IllegalAccessException e) {
            throw new AssertionError(name, e);
        }
    }
}
