import java.io.IOException;
import java.lang.reflect.Field;
import java.lang.reflect.Method;
import java.lang.reflect.Modifier;
import java.nio.file.Files;
import java.nio.file.Path;
import java.util.Set;
import java.util.regex.Matcher;
import java.util.regex.Pattern;

/** The rules of ../shared/LANGUAGE.md that can be seen from the source or the class itself. */
final class LanguageTest {
    private static final Path SOURCE = Path.of("src/main/java/TongueSchool.java");
    private static final Set<String> LIBRARY = Set.of("Integer.bitCount", "Math.min", "Math.max", "System.arraycopy");
    private static final Set<String> EXCEPTIONS = Set.of("IllegalStateException", "IllegalArgumentException",
            "IndexOutOfBoundsException", "ArrayStoreException");

    private LanguageTest() {
    }

    private static String code() {
        try {
            String text = Files.readString(SOURCE);
            return text.replaceAll("(?s)/\\*.*?\\*/", " ").replaceAll("//[^\n]*", " ").replaceAll("\"[^\"\n]*\"", "\"\"");
        } catch (IOException e) {
            throw new AssertionError(e);
        }
    }

    private static void has(String code, String pattern, boolean want) {
        Check.same("the source has " + pattern, want, Pattern.compile(pattern).matcher(code).find());
    }

    static void language_noWordsThatAreLeftOut() {
        String code = code();
        has(code, "\\b(package|import|try|catch|finally|synchronized|assert|volatile|transient|native|strictfp)\\b", false);
        has(code, "->|::", false);
        has(code, "\\b(protected|double|var|yield|instanceof|Object|Float|Double|Long|String)\\b", false);
        has(code, "\\b(equals|hashCode|toString|clone|getClass)\\b", false);
    }

    static void language_noLibraryButWhatIsListed() {
        Matcher call = Pattern.compile("\\b([A-Z][a-z]\\w*)\\.(\\w+)").matcher(code());
        while (call.find()) {
            Check.same(call.group() + " is listed", true, LIBRARY.contains(call.group()));
        }
    }

    static void language_exceptionsAreThrownNewWithAWrittenText() {
        String code = code();
        Matcher thrown = Pattern.compile("\\bthrow\\b\\s*([^;]*);").matcher(code);
        while (thrown.find()) {
            Matcher made = Pattern.compile("new (\\w+)\\(\"\"\\)").matcher(thrown.group(1));
            Check.same(thrown.group() + " is plain", true, made.matches() && EXCEPTIONS.contains(made.group(1)));
        }
    }

    static void language_staticFieldsAreConstants() {
        for (Field field : TongueSchool.class.getDeclaredFields()) {
            checkStatic(field);
        }
        for (Class<?> inside : TongueSchool.class.getDeclaredClasses()) {
            Check.same(inside + " is static", true, Modifier.isStatic(inside.getModifiers()));
            Check.same(inside + " is not public", false, Modifier.isPublic(inside.getModifiers()));
            for (Field field : inside.getDeclaredFields()) {
                checkStatic(field);
            }
        }
    }

    private static void checkStatic(Field field) {
        if (Modifier.isStatic(field.getModifiers())) {
            Check.same(field + " is final", true, Modifier.isFinal(field.getModifiers()));
            Check.same(field + " is an int", true, field.getType() == int.class);
        }
    }

    static void language_methodsStayShort() throws IOException {
        int begin = 0;
        int number = 0;
        for (String line : Files.readAllLines(SOURCE)) {
            number++;
            if (line.matches(" {4}( {4})?\\S.*\\)( throws .*)? \\{") && !line.contains(" if ")) {
                begin = number;
            }
            if (line.matches(" {4}( {4})?\\}") && begin > 0) {
                Check.same("lines to " + number + " are few", true, number - begin <= 60);
                begin = 0;
            }
        }
    }

    static void language_signsAreOfTheFirst127() throws IOException {
        for (char sign : Files.readString(SOURCE).toCharArray()) {
            Check.same("sign " + (int) sign, true, sign >= 1 && sign <= 127);
        }
    }

    static void language_loopsHaveEndsAndTextsAreNotJoined() {
        String code = code();
        has(code, "while\\s*\\(\\s*true|for\\s*\\([^;]*;\\s*;", false);
        has(code, "\"\"\\s*\\+|\\+=?\\s*\"\"", false);
    }

    static void language_fewClassesAndFields() {
        Class<?>[] inside = TongueSchool.class.getDeclaredClasses();
        Check.same("classes", true, inside.length < 12);
        Check.same("fields of the school", true, fieldCount(TongueSchool.class) <= 20);
        for (Class<?> each : inside) {
            Check.same("fields of " + each, true, fieldCount(each) <= 20);
        }
    }

    private static int fieldCount(Class<?> of) {
        int count = 0;
        for (Field field : of.getDeclaredFields()) {
            count += Modifier.isStatic(field.getModifiers()) ? 0 : 1;
        }
        return count;
    }

    static void language_atMostSevenParameters() {
        for (Method method : TongueSchool.class.getDeclaredMethods()) {
            Check.same(method + " takes few", true, method.getParameterCount() <= 7);
        }
        for (Class<?> inside : TongueSchool.class.getDeclaredClasses()) {
            for (Method method : inside.getDeclaredMethods()) {
                Check.same(method + " takes few", true, method.getParameterCount() <= 7);
            }
        }
    }
}
