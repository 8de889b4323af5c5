import java.lang.reflect.Constructor;
import java.lang.reflect.Field;
import java.lang.reflect.Method;
import java.lang.reflect.Modifier;
import java.util.Set;
import java.util.TreeSet;

/** The face is that of the document, and nothing else of the class can be seen. */
final class FaceTest {
    private static final String[] CALLS = {
        "int form(int)", "int transfer(int,int,int)", "int learner(int)", "int lesson(int,int)", "int pass(int)",
        "int talk(int,int)", "int correct(int,int,int)", "int abroad(int,int)", "boolean keep(int)", "int back(int)",
        "int text(int)", "int read(int,int)", "int shelf(int)", "boolean put(int,int,boolean,int)", "int item(int)",
        "int answer(int,boolean)", "int day()", "int strength(int,int)", "int level(int)", "int forms(int,int)",
        "boolean isHushed(int)", "int cause(int,int)", "int next(int)", "int at(int,int)", "int difficulty(int)",
        "int ability(int)", "int group(int)", "int cost(int)", "int plan(int,int,int)", "int total(int,int)",
        "int totalAnew(int,int)",
    };

    private FaceTest() {
    }

    static void face_callsAreThoseOfTheDocument() {
        Set<String> found = new TreeSet<>();
        for (Method method : TongueSchool.class.getDeclaredMethods()) {
            if (!Modifier.isPrivate(method.getModifiers())) {
                found.add(told(method));
                Check.same(method + " is public and no static one", Modifier.PUBLIC, method.getModifiers());
            }
        }
        Check.same("calls", new TreeSet<>(Set.of(CALLS)).toString(), found.toString());
    }

    private static String told(Method method) {
        StringBuilder text = new StringBuilder();
        text.append(method.getReturnType()).append(' ').append(method.getName()).append('(');
        for (Class<?> type : method.getParameterTypes()) {
            text.append(text.charAt(text.length() - 1) == '(' ? "" : ",").append(type);
        }
        return text.append(')').toString();
    }

    static void face_constantsAreThoseOfTheDocument() {
        Set<String> found = new TreeSet<>();
        for (Field field : TongueSchool.class.getDeclaredFields()) {
            if (!Modifier.isPrivate(field.getModifiers())) {
                found.add(field.getName());
                Check.same(field + " is a public constant",
                        Modifier.PUBLIC | Modifier.STATIC | Modifier.FINAL, field.getModifiers());
            }
        }
        Check.same("constants", "[ANY, EXPLICIT, FORMS, NONE, PROMPT, RECAST, TEXTS]", found.toString());
    }

    static void face_theClassIsPublicAndFinalWithOneConstructor() {
        Check.same("class", Modifier.PUBLIC | Modifier.FINAL, TongueSchool.class.getModifiers());
        Constructor<?>[] constructors = TongueSchool.class.getDeclaredConstructors();
        Check.same("constructors", 1, constructors.length);
        Check.same("public", Modifier.PUBLIC, constructors[0].getModifiers());
        Check.same("parameters", 0, constructors[0].getParameterCount());
    }

    static void face_noOtherMethodBearsAPublicName() {
        Set<String> names = new TreeSet<>();
        for (String call : CALLS) {
            names.add(call.substring(call.indexOf(' ') + 1, call.indexOf('(')));
        }
        for (Method method : TongueSchool.class.getDeclaredMethods()) {
            Check.same(method + " has a name of its own",
                    Modifier.isPrivate(method.getModifiers()), !names.contains(method.getName()));
        }
        for (Class<?> inside : TongueSchool.class.getDeclaredClasses()) {
            for (Method method : inside.getDeclaredMethods()) {
                Check.same(method + " has a name of its own", false, names.contains(method.getName()));
            }
        }
    }
}
