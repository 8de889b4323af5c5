import java.util.ArrayList;
import java.util.List;

/**
 * A TongueSchool that remembers the calls made of it, so that the same one can be made again; or a
 * SlowSchool of which the same calls were made.
 */
final class School {
    /** What a TongueSchool answers behind so many calls is free. */
    static final int MOST_CALLS = 512;
    /** No call answers this: as a float it is NaN. */
    private static final int REFUSED = Integer.MAX_VALUE;

    private record Call(String name, Object[] args) {
    }

    private final Object school;
    private final List<Call> calls = new ArrayList<>();
    private final List<Integer> answers = new ArrayList<>();

    School() {
        this(new TongueSchool());
    }

    private School(Object school) {
        this.school = school;
    }

    int callCount() {
        return calls.size();
    }

    School again() {
        return calledAgain(new TongueSchool(), true);
    }

    School againWithoutRefusedCalls() {
        return calledAgain(new TongueSchool(), false);
    }

    School againAsSlowSchool() {
        return calledAgain(new SlowSchool(), true);
    }

    private School calledAgain(Object newSchool, boolean withRefused) {
        School other = new School(newSchool);
        for (int number = 0; number < calls.size(); number++) {
            Call call = calls.get(number);
            if (answers.get(number) != REFUSED) {
                Check.same(call.name + " made again", answers.get(number), other.number(call.name, call.args));
            } else if (withRefused) {
                other.refused(call);
            }
        }
        return other;
    }

    private void refused(Call call) {
        try {
            number(call.name, call.args);
        } catch (RuntimeException e) {
            return;
        }
        throw new AssertionError("a call that was refused is answered as it is made again");
    }

    private int number(String name, Object... args) {
        if (calls.size() >= MOST_CALLS) {
            throw new AssertionError("a test makes more than " + MOST_CALLS + " calls of one school");
        }
        calls.add(new Call(name, args));
        answers.add(REFUSED);
        Object told = Face.call(school, name, args);
        int answer = told instanceof Boolean isSo ? (isSo ? 1 : 0) : (Integer) told;
        answers.set(answers.size() - 1, answer);
        return answer;
    }

    private boolean truth(String name, Object... args) {
        return number(name, args) != 0;
    }

    int form(int needs) {
        return number("form", needs);
    }

    int transfer(int tongue, int form, int how) {
        return number("transfer", tongue, form, how);
    }

    int learner(int tongue) {
        return number("learner", tongue);
    }

    int lesson(int learner, int form) {
        return number("lesson", learner, form);
    }

    int pass(int days) {
        return number("pass", days);
    }

    int talk(int learner, int forms) {
        return number("talk", learner, forms);
    }

    int correct(int learner, int form, int way) {
        return number("correct", learner, form, way);
    }

    int abroad(int learner, int friends) {
        return number("abroad", learner, friends);
    }

    boolean keep(int learner) {
        return truth("keep", learner);
    }

    int back(int learner) {
        return number("back", learner);
    }

    int text(int forms) {
        return number("text", forms);
    }

    int read(int learner, int text) {
        return number("read", learner, text);
    }

    int shelf(int kind) {
        return number("shelf", kind);
    }

    boolean put(int shelf, int place, boolean isText, int number) {
        return truth("put", shelf, place, isText, number);
    }

    int item(int eighths) {
        return number("item", eighths);
    }

    int answer(int learner, boolean isRight) {
        return number("answer", learner, isRight);
    }

    int day() {
        return number("day");
    }

    int strength(int learner, int form) {
        return number("strength", learner, form);
    }

    int level(int learner) {
        return number("level", learner);
    }

    int forms(int learner, int what) {
        return number("forms", learner, what);
    }

    boolean isHushed(int learner) {
        return truth("isHushed", learner);
    }

    int cause(int learner, int form) {
        return number("cause", learner, form);
    }

    int next(int learner) {
        return number("next", learner);
    }

    int at(int shelf, int place) {
        return number("at", shelf, place);
    }

    int difficulty(int item) {
        return number("difficulty", item);
    }

    int ability(int learner) {
        return number("ability", learner);
    }

    int group(int learners) {
        return number("group", learners);
    }

    int cost(int learners) {
        return number("cost", learners);
    }

    int plan(int learner, int lessons, int turn) {
        return number("plan", learner, lessons, turn);
    }

    int total(int learner, int lessons) {
        return number("total", learner, lessons);
    }

    int totalAnew(int learner, int lessons) {
        return number("totalAnew", learner, lessons);
    }
}
