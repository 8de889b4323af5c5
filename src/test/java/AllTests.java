import java.io.IOException;
import java.lang.reflect.InvocationTargetException;
import java.lang.reflect.Method;
import java.nio.file.Files;
import java.nio.file.Path;
import java.util.ArrayList;
import java.util.Comparator;
import java.util.List;

/**
 * Runs every test of the project: each method of these classes whose name has an underscore.
 * What stands ahead of it tells the promise, p01 to p32, or what else is tested.
 */
public final class AllTests {
    private static final Class<?>[] CLASSES = {
        FormsLearnersTest.class, LessonsTest.class, TalkTest.class, CorrectTest.class, AbroadNotesTest.class,
        TextsTest.class, ShelvesTest.class, PlacementTest.class, LooksTest.class, GroupsTest.class, PlanTest.class,
        ChangesTest.class, RefusalsTest.class, DocumentTest.class, ReadmeTest.class, FaceTest.class, LanguageTest.class,
        RandomRunsTest.class,
    };

    private AllTests() {
    }

    /** args: the file that is given how many tests passed and how many failed. */
    public static void main(String[] args) throws IOException {
        List<Method> tests = tests();
        int[] ofPromise = new int[Document.PROMISES + 1];
        int failed = 0;
        for (Method test : tests) {
            ofPromise[promiseOf(test)]++;
            if (!passes(test)) {
                failed++;
            }
        }
        for (int promise = 1; promise <= Document.PROMISES; promise++) {
            System.out.println("tests of the promise " + promise + ": " + ofPromise[promise]);
        }
        System.out.println("tests of what is no single promise: " + ofPromise[0]);
        System.out.println("the project's tests: " + tests.size() + ", of which failed: " + failed);
        if (args.length > 0) {
            Files.writeString(Path.of(args[0]), (tests.size() - failed) + " " + failed + "\n");
        }
        System.exit(failed == 0 ? 0 : 1);
    }

    static List<Method> tests() {
        List<Method> tests = new ArrayList<>();
        for (Class<?> each : CLASSES) {
            List<Method> own = new ArrayList<>();
            for (Method method : each.getDeclaredMethods()) {
                if (method.getName().contains("_") && !method.isSynthetic()) {
                    own.add(method);
                }
            }
            own.sort(Comparator.comparing(Method::getName));
            tests.addAll(own);
        }
        return tests;
    }

    /** 0 if the test is not of a single promise. */
    static int promiseOf(Method test) {
        String name = test.getName();
        return name.matches("p\\d\\d_.*") ? Integer.parseInt(name.substring(1, 3)) : 0;
    }

    private static boolean passes(Method test) {
        String name = test.getDeclaringClass().getName() + "." + test.getName();
        try {
            test.invoke(null);
            return true;
        } catch (InvocationTargetException e) {
            System.out.println("FAILED: " + name + ": " + e.getCause());
            return false;
        } catch (IllegalAccessException e) {
            System.out.println("FAILED: " + name + ": " + e);
            return false;
        }
    }
}
