import java.io.IOException;
import java.lang.reflect.Method;
import java.nio.file.Files;
import java.nio.file.Path;

/** README.md tells of every call, and its example does what it says. */
final class ReadmeTest {
    private static final Path README = Path.of("README.md");
    private static final Path THIS = Path.of("src/test/java/ReadmeTest.java");

    private ReadmeTest() {
    }

    private static String read(Path file) {
        try {
            return Files.readString(file);
        } catch (IOException e) {
            throw new AssertionError(e);
        }
    }

    static void readme_namesEachCallWithItsParameters() {
        String text = read(README);
        for (Method call : Face.calls()) {
            int begin = text.indexOf("`" + call.getName() + "(");
            Check.same(call.getName() + " is told", true, begin >= 0);
            String inside = text.substring(text.indexOf('(', begin) + 1, text.indexOf(')', begin));
            int told = inside.isEmpty() ? 0 : inside.split(", ").length;
            Check.same("parameters of " + call.getName(), call.getParameterCount(), told);
        }
    }

    static void readme_theExampleStandsInTheTestBelow() {
        String text = read(README);
        String example = text.substring(text.indexOf("```java\n") + 8, text.indexOf("```\n\n- Numbers"));
        String test = read(THIS);
        for (String line : example.split("\n")) {
            String code = line.replaceAll(" *//.*", "");
            Check.same("this file has '" + code + "'", true, test.contains("        " + code + "\n"));
        }
    }

    static void readme_theExampleAnswersAsItSays() {
        TongueSchool school = new TongueSchool();
        int first = school.form(0);
        int second = school.form(1 << first);
        int learner = school.learner(2);
        school.transfer(2, first, 1);
        int bits = school.lesson(learner, first);
        school.lesson(learner, second);
        int wrong = school.talk(learner, 3);
        int why = school.cause(learner, second);
        school.pass(7);
        int best = school.plan(learner, 3, 0);
        Check.bits("lesson", 0.5f, bits);
        Check.same("talk", 2, wrong);
        Check.same("cause", 5, why);
        Check.same("plan", first, best);
    }
}
