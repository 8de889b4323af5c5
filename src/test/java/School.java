import java.util.ArrayList;
import java.util.List;
import java.util.function.ToIntFunction;

/** A TongueSchool that remembers the calls made of it, so that the same one can be made again. */
final class School {
    /** What a TongueSchool answers behind so many calls is free. */
    static final int MOST_CALLS = 512;

    private final TongueSchool school = new TongueSchool();
    private final List<ToIntFunction<TongueSchool>> calls = new ArrayList<>();
    private final List<Boolean> refusals = new ArrayList<>();

    int callCount() {
        return calls.size();
    }

    School again() {
        return again(true);
    }

    School againWithoutRefusedCalls() {
        return again(false);
    }

    private School again(boolean withRefused) {
        School other = new School();
        for (int number = 0; number < calls.size(); number++) {
            if (!refusals.get(number)) {
                other.number(calls.get(number));
            } else if (withRefused) {
                other.refused(calls.get(number));
            }
        }
        return other;
    }

    private void refused(ToIntFunction<TongueSchool> call) {
        try {
            number(call);
        } catch (RuntimeException e) {
            return;
        }
        throw new AssertionError("a call that was refused is answered as it is made again");
    }

    private int number(ToIntFunction<TongueSchool> call) {
        if (calls.size() >= MOST_CALLS) {
            throw new AssertionError("a test makes more than " + MOST_CALLS + " calls of one school");
        }
        calls.add(call);
        refusals.add(true);
        int answer = call.applyAsInt(school);
        refusals.set(refusals.size() - 1, false);
        return answer;
    }

    private boolean truth(ToIntFunction<TongueSchool> call) {
        return number(call) != 0;
    }

    int form(int needs) {
        return number(s -> s.form(needs));
    }

    int transfer(int tongue, int form, int how) {
        return number(s -> s.transfer(tongue, form, how));
    }

    int learner(int tongue) {
        return number(s -> s.learner(tongue));
    }

    int lesson(int learner, int form) {
        return number(s -> s.lesson(learner, form));
    }

    int pass(int days) {
        return number(s -> s.pass(days));
    }

    int talk(int learner, int forms) {
        return number(s -> s.talk(learner, forms));
    }

    int correct(int learner, int form, int way) {
        return number(s -> s.correct(learner, form, way));
    }

    int abroad(int learner, int friends) {
        return number(s -> s.abroad(learner, friends));
    }

    boolean keep(int learner) {
        return truth(s -> s.keep(learner) ? 1 : 0);
    }

    int back(int learner) {
        return number(s -> s.back(learner));
    }

    int text(int forms) {
        return number(s -> s.text(forms));
    }

    int read(int learner, int text) {
        return number(s -> s.read(learner, text));
    }

    int shelf(int kind) {
        return number(s -> s.shelf(kind));
    }

    boolean put(int shelf, int place, boolean isText, int number) {
        return truth(s -> s.put(shelf, place, isText, number) ? 1 : 0);
    }

    int item(int eighths) {
        return number(s -> s.item(eighths));
    }

    int answer(int learner, boolean isRight) {
        return number(s -> s.answer(learner, isRight));
    }

    int day() {
        return number(s -> s.day());
    }

    int strength(int learner, int form) {
        return number(s -> s.strength(learner, form));
    }

    int level(int learner) {
        return number(s -> s.level(learner));
    }

    int forms(int learner, int what) {
        return number(s -> s.forms(learner, what));
    }

    boolean isHushed(int learner) {
        return truth(s -> s.isHushed(learner) ? 1 : 0);
    }

    int cause(int learner, int form) {
        return number(s -> s.cause(learner, form));
    }

    int next(int learner) {
        return number(s -> s.next(learner));
    }

    int at(int shelf, int place) {
        return number(s -> s.at(shelf, place));
    }

    int difficulty(int item) {
        return number(s -> s.difficulty(item));
    }

    int ability(int learner) {
        return number(s -> s.ability(learner));
    }

    int group(int learners) {
        return number(s -> s.group(learners));
    }

    int cost(int learners) {
        return number(s -> s.cost(learners));
    }

    int plan(int learner, int lessons, int turn) {
        return number(s -> s.plan(learner, lessons, turn));
    }

    int total(int learner, int lessons) {
        return number(s -> s.total(learner, lessons));
    }

    int totalAnew(int learner, int lessons) {
        return number(s -> s.totalAnew(learner, lessons));
    }
}
