import java.lang.reflect.Method;
import java.util.ArrayList;
import java.util.Arrays;
import java.util.HashMap;
import java.util.List;
import java.util.Map;
import java.util.Random;

/** Runs of 512 calls, each call made of a TongueSchool and of a SlowSchool, which must agree. */
final class RandomRunsTest {
    private static final int CALLS = 512;
    private static final int[] ENDS = {Integer.MIN_VALUE, Integer.MIN_VALUE + 1, -65, -64, -2, -1, 4, 5, 6, 10, 12, 13, 31,
        32, 64, 65, 4096, 1 << 30, Integer.MAX_VALUE - 1, Integer.MAX_VALUE};
    private static final List<Method> CALLS_OF_THE_FACE = Face.calls();

    private RandomRunsTest() {
    }

    static void runs_agreeWithTheSlowSchool() {
        for (int seed = 0; seed < 250; seed++) {
            run(new Random(seed), seed % 5 == 0 ? 12 : 1 + seed % 12, 40, 25);
        }
    }

    static void runs_ofWrongInputsAgree() {
        for (int seed = 1000; seed < 1100; seed++) {
            run(new Random(seed), seed % 4, 400, 12);
        }
    }

    static void runs_ofTalkAndCorrectionsAgree() {
        for (int seed = 2000; seed < 2200; seed++) {
            run(new Random(seed), 1 + seed % 4, 10, 3,
                    "talk", "talk", "talk", "correct", "correct", "correct", "lesson", "lesson", "pass", "cause", "forms");
        }
    }

    static void runs_ofTextsNotesAndGroupsAgree() {
        for (int seed = 3000; seed < 3150; seed++) {
            run(new Random(seed), 2 + seed % 8, 10, 3,
                    "read", "next", "keep", "back", "abroad", "group", "cost", "pass", "lesson", "lesson");
        }
    }

    static void runs_ofPlansAgree() {
        for (int seed = 4000; seed < 4060; seed++) {
            run(new Random(seed), 1 + seed % 12, 10, 6,
                    "plan", "total", "totalAnew", "lesson", "pass", "transfer", "correct");
        }
    }

    static void runs_ofPlacementAgree() {
        for (int seed = 5000; seed < 5200; seed++) {
            run(new Random(seed), seed % 3, 10, 4, "item", "answer", "ability", "difficulty");
        }
    }

    static void runs_withoutTheirRefusedCallsAnswerTheSame() {
        for (int seed = 6000; seed < 6150; seed++) {
            List<Told> told = run(new Random(seed), 1 + seed % 6, 150, 40,
                    "lesson", "talk", "correct", "read", "put", "answer");
            TongueSchool other = new TongueSchool();
            for (Told call : told) {
                if (!call.isRefused()) {
                    Check.same(call.toString(), call.answer, answer(other, call.method, call.args));
                }
            }
        }
    }

    /** A call of a run, with its answer or the name of what it threw. */
    private record Told(Method method, Object[] args, String answer) {
        boolean isRefused() {
            return answer.startsWith("java.lang.");
        }

        @Override
        public String toString() {
            return method.getName() + Arrays.toString(args) + " = " + answer;
        }
    }

    /** oddity: of a thousand numbers so many are far off; rest: so many percent are other calls. */
    private static List<Told> run(Random random, int forms, int oddity, int rest, String... liked) {
        TongueSchool fast = new TongueSchool();
        SlowSchool slow = new SlowSchool();
        List<Told> told = new ArrayList<>();
        for (int call = 0; call < CALLS; call++) {
            Method method = choose(random, call, forms, rest, liked);
            Object[] args = arguments(random, slow, method, oddity);
            String due = answer(slow, method, args);
            String got = answer(fast, method, args);
            told.add(new Told(method, args, got));
            if (!due.equals(got)) {
                throw new AssertionError("due is " + due + " behind\n" + told);
            }
        }
        return told;
    }

    private static Method choose(Random random, int call, int forms, int rest, String... liked) {
        if (call < forms) {
            return named("form");
        }
        if (call < forms + 4) {
            return named(random.nextInt(6) == 0 ? "text" : "learner");
        }
        if (call < forms + 20) {
            return named(new String[] {"transfer", "text", "shelf", "item"}[random.nextInt(4)]);
        }
        if (liked.length > 0 && random.nextInt(100) >= rest) {
            return named(liked[random.nextInt(liked.length)]);
        }
        return CALLS_OF_THE_FACE.get(random.nextInt(CALLS_OF_THE_FACE.size()));
    }

    private static Method named(String name) {
        for (Method method : CALLS_OF_THE_FACE) {
            if (method.getName().equals(name)) {
                return method;
            }
        }
        throw new AssertionError(name);
    }

    private static Object[] arguments(Random random, SlowSchool slow, Method method, int oddity) {
        Object[] args = new Object[method.getParameterCount()];
        for (int place = 0; place < args.length; place++) {
            if (method.getParameterTypes()[place] == boolean.class) {
                args[place] = random.nextBoolean();
            } else if (random.nextInt(1000) < oddity) {
                args[place] = ENDS[random.nextInt(ENDS.length)];
            } else {
                args[place] = ordinary(random, slow, method.getName(), place);
            }
        }
        return args;
    }

    /** What stands for a count that only the school knows. */
    private static final int A_FORM = -1, SOME_FORMS = -2, A_LEARNER = -3, SOME_LEARNERS = -4, A_TEXT = -5;
    private static final Map<String, int[]> BOUNDS = bounds();

    /** For each call, of each number the least and how many there are. */
    private static Map<String, int[]> bounds() {
        Map<String, int[]> bounds = new HashMap<>();
        bounds.put("form", new int[] {0, SOME_FORMS});
        bounds.put("transfer", new int[] {0, 4, 0, A_FORM, -1, 3});
        bounds.put("learner", new int[] {0, 4});
        bounds.put("lesson", new int[] {0, A_LEARNER, 0, A_FORM});
        bounds.put("pass", new int[] {1, 3});
        bounds.put("talk", new int[] {0, A_LEARNER, 0, SOME_FORMS});
        bounds.put("correct", new int[] {0, A_LEARNER, 0, A_FORM, 0, 3});
        bounds.put("abroad", new int[] {0, A_LEARNER, 0, 10});
        bounds.put("text", new int[] {0, SOME_FORMS});
        bounds.put("read", new int[] {0, A_LEARNER, 0, A_TEXT});
        bounds.put("shelf", new int[] {0, 3});
        bounds.put("put", new int[] {0, 4, 0, 5, 0, 2, 0, A_TEXT});
        bounds.put("item", new int[] {-20, 41});
        bounds.put("at", new int[] {0, 4, 0, 5});
        bounds.put("difficulty", new int[] {0, 12});
        bounds.put("strength", new int[] {0, A_LEARNER, 0, A_FORM});
        bounds.put("cause", new int[] {0, A_LEARNER, 0, A_FORM});
        bounds.put("forms", new int[] {0, A_LEARNER, 0, 4});
        bounds.put("group", new int[] {0, SOME_LEARNERS});
        bounds.put("cost", new int[] {0, SOME_LEARNERS});
        bounds.put("plan", new int[] {0, A_LEARNER, 1, 3, 0, 3});
        bounds.put("total", new int[] {0, A_LEARNER, 1, 3});
        bounds.put("totalAnew", new int[] {0, A_LEARNER, 1, 3});
        return bounds;
    }

    private static int ordinary(Random random, SlowSchool slow, String call, int place) {
        int[] bounds = BOUNDS.getOrDefault(call, new int[] {0, A_LEARNER});
        int count = bounds[2 * place + 1];
        switch (count) {
            case A_FORM:
                return random.nextInt(Math.max(1, slow.formCount()));
            case SOME_FORMS:
                return fewOf(random, slow.formCount());
            case A_LEARNER:
                return random.nextInt(Math.max(1, slow.learnerCount()));
            case SOME_LEARNERS:
                return random.nextInt(1 << slow.learnerCount());
            case A_TEXT:
                return random.nextInt(Math.max(1, slow.textCount()));
            default:
                return bounds[2 * place] + random.nextInt(count);
        }
    }

    private static int fewOf(Random random, int count) {
        int set = 0;
        int members = random.nextInt(4);
        for (int time = 0; time < members && count > 0; time++) {
            set |= 1 << random.nextInt(count);
        }
        return set;
    }

    private static String answer(Object school, Method method, Object[] args) {
        try {
            return String.valueOf(Face.call(school, method.getName(), args));
        } catch (RuntimeException e) {
            return e.getClass().getName();
        }
    }
}
