import java.io.IOException;
import java.lang.reflect.InvocationTargetException;
import java.lang.reflect.Method;
import java.nio.file.Files;
import java.nio.file.Path;
import java.util.ArrayList;
import java.util.Comparator;
import java.util.List;

/**
 * Runs every test of the project: each method of these classes whose name has an underscore.
 * What stands ahead of it tells the promise, p01 to p32, or face, language or runs.
 */
public final class AllTests {
    private static final int PROMISES = 32;
    private static final Class<?>[] CLASSES = {
        FormsLearnersTest.class, LessonsTest.class, TalkTest.class, AbroadNotesTest.class, TextsShelvesTest.class,
        PlacementTest.class, GroupsTest.class, PlanTest.class, FaceTest.class, LanguageTest.class, RandomRunsTest.class,
    };

    private AllTests() {
    }

    /** args: the file that is given how many tests passed and how many failed. */
    public static void main(String[] args) throws IOException {
        List<Method> tests = tests();
        int failed = 0;
        for (Method test : tests) {
            if (!passes(test)) {
                failed++;
            }
        }
        for (int promise = 1; promise <= PROMISES; promise++) {
            if (!isTested(tests, promise)) {
                System.out.println("FAILED: no test of the promise " + promise);
                failed++;
            }
        }
        if (args.length > 0) {
            Files.writeString(Path.of(args[0]), (tests.size() - failed) + " " + failed + "\n");
        }
        System.out.println("the project's tests: " + tests.size() + ", of which failed: " + failed);
        System.exit(failed == 0 ? 0 : 1);
    }

    private static List<Method> tests() {
        List<Method> tests = new ArrayList<>();
        for (Class<?> each : CLASSES) {
            List<Method> own = new ArrayList<>();
            for (Method method : each.getDeclaredMethods()) {
                if (method.getName().contains("_") && !method.isSynthetic()) {
                    own.add(method);
                }
            }
            own.sort(Comparator.comparing(Method::getName));
            tests.addAll(own);
        }
        return tests;
    }

    private static boolean passes(Method test) {
        String name = test.getDeclaringClass().getName() + "." + test.getName();
        try {
            test.invoke(null);
            return true;
        } catch (InvocationTargetException e) {
            System.out.println("FAILED: " + name + ": " + e.getCause());
            return false;
        } catch (IllegalAccessException e) {
            System.out.println("FAILED: " + name + ": " + e);
            return false;
        }
    }

    private static boolean isTested(List<Method> tests, int promise) {
        String prefix = (promise < 10 ? "p0" : "p") + promise + "_";
        for (Method test : tests) {
            if (test.getName().startsWith(prefix)) {
                return true;
            }
        }
        return false;
    }
}
