import java.util.List;
import java.util.function.Consumer;
import java.util.function.IntConsumer;
import java.util.function.IntSupplier;

/**
 * Runs of calls that show, together, all that a school holds: what it tells at once, and what only
 * later calls bring out, such as counted errors, upsets, lessons, notes, steps and NEEDS.
 */
final class LaterCalls {
    private static final int LEARNERS = 6, FORMS = 12, TEXTS = 10, SHELVES = 4, PLACES = 5, ITEMS = 12, TONGUES = 4;
    private static final List<Consumer<LaterCalls>> RUNS = List.of(
            LaterCalls::looks, LaterCalls::groupsAndPlans, LaterCalls::transfersAndPlaces, LaterCalls::additions,
            LaterCalls::lessons, LaterCalls::talk, LaterCalls::talkOnTheNextDay, LaterCalls::talkOfWhatIsForgotten,
            LaterCalls::corrections, LaterCalls::upsets, LaterCalls::notes, LaterCalls::reading, LaterCalls::answers,
            LaterCalls::needs);

    private final School school;
    private final StringBuilder told = new StringBuilder();

    private LaterCalls(School school) {
        this.school = school;
    }

    /** With the refused calls and without them, a school answers the same from now on. */
    static void showNoRefusedCall(School school) {
        for (Consumer<LaterCalls> run : RUNS) {
            String without = told(run, school.againWithoutRefusedCalls());
            String with = told(run, school.again());
            Check.same("later calls behind a refused one", without, with);
        }
    }

    static void showTheSame(School one, School other) {
        for (Consumer<LaterCalls> run : RUNS) {
            Check.same("later calls of two schools", told(run, one.again()), told(run, other.again()));
        }
    }

    /** All that is told of a school is what the SlowSchool tells behind the same calls. */
    static void showThatOfTheSlowSchool(School school) {
        for (Consumer<LaterCalls> run : RUNS) {
            String slow = told(run, school.againAsSlowSchool());
            Check.same("later calls", slow, told(run, school.again()));
        }
    }

    private static String told(Consumer<LaterCalls> run, School school) {
        LaterCalls calls = new LaterCalls(school);
        run.accept(calls);
        return calls.told.toString();
    }

    /** Returns what is answered, 0 if nothing is. */
    private int tell(String call, IntSupplier answer) {
        int answered = 0;
        told.append(call).append(' ');
        try {
            answered = answer.getAsInt();
            told.append(answered);
        } catch (RuntimeException e) {
            told.append(e.getClass().getName());
        }
        told.append('\n');
        return answered;
    }

    private static void each(int count, IntConsumer body) {
        for (int number = 0; number < count; number++) {
            body.accept(number);
        }
    }

    private void looks() {
        tell("day", () -> school.day());
        each(LEARNERS, learner -> {
            tell("level", () -> school.level(learner));
            tell("isHushed", () -> school.isHushed(learner) ? 1 : 0);
            tell("next", () -> school.next(learner));
            tell("ability", () -> school.ability(learner));
            each(4, what -> tell("forms", () -> school.forms(learner, what)));
            each(FORMS, form -> tell("strength", () -> school.strength(learner, form)));
            each(FORMS, form -> tell("cause", () -> school.cause(learner, form)));
        });
        each(ITEMS, item -> tell("difficulty", () -> school.difficulty(item)));
    }

    private void groupsAndPlans() {
        each(1 << LEARNERS, set -> {
            tell("group", () -> school.group(set));
            tell("cost", () -> school.cost(set));
        });
        each(LEARNERS, learner -> {
            tell("total", () -> school.total(learner, 2));
            tell("totalAnew", () -> school.totalAnew(learner, 2));
            tell("plan", () -> school.plan(learner, 2, 0));
            tell("plan", () -> school.plan(learner, 2, 1));
        });
    }

    private void transfersAndPlaces() {
        each(TONGUES, tongue -> each(FORMS, form -> tell("transfer", () -> school.transfer(tongue, form, 0))));
        tell("form", () -> school.form(0));
        tell("text", () -> school.text(1));
        each(SHELVES, shelf -> each(PLACES, place -> {
            tell("at", () -> school.at(shelf, place));
            tell("put", () -> school.put(shelf, place, true, 0) ? 1 : 0);
            tell("put", () -> school.put(shelf, place, false, 0) ? 1 : 0);
        }));
    }

    /** One of each kind more than can be, so that the last is refused: so many there were. */
    private void additions() {
        each(FORMS + 1, time -> {
            tell("form", () -> school.form(0));
            tell("learner", () -> school.learner(1));
            tell("text", () -> school.text(1));
            tell("shelf", () -> school.shelf(TongueSchool.ANY));
            tell("item", () -> school.item(8));
        });
        each(LEARNERS, learner -> {
            tell("forms", () -> school.forms(learner, 1));
            tell("next", () -> school.next(learner));
            tell("answer", () -> school.answer(learner, true));
            each(FORMS, form -> tell("strength", () -> school.strength(learner, form)));
        });
    }

    private void lessons() {
        each(LEARNERS, learner -> each(FORMS, form -> tell("lesson", () -> school.lesson(learner, form))));
        tell("pass", () -> school.pass(1));
        each(LEARNERS, learner -> {
            tell("forms", () -> school.forms(learner, 3));
            each(4, time -> tell("lesson", () -> school.lesson(learner, 0)));
        });
    }

    private void talk() {
        each(LEARNERS, learner -> each(3, time -> {
            each(FORMS, form -> tell("talk", () -> school.talk(learner, 1 << form)));
            tell("forms", () -> school.forms(learner, 2));
        }));
    }

    private void talkOnTheNextDay() {
        tell("pass", () -> school.pass(1));
        talk();
    }

    private void talkOfWhatIsForgotten() {
        tell("pass", () -> school.pass(30));
        talk();
    }

    private void corrections() {
        each(LEARNERS, learner -> each(2, time -> {
            each(FORMS, form -> tell("correct", () -> school.correct(learner, form, TongueSchool.EXPLICIT)));
            tell("forms", () -> school.forms(learner, 2));
        }));
    }

    private void upsets() {
        each(LEARNERS, learner -> each(4, time -> {
            tell("isHushed", () -> school.isHushed(learner) ? 1 : 0);
            tell("correct", () -> school.correct(learner, 0, TongueSchool.EXPLICIT));
        }));
    }

    private void notes() {
        each(LEARNERS, learner -> {
            tell("back", () -> school.back(learner));
            each(FORMS, form -> tell("strength", () -> school.strength(learner, form)));
            tell("keep", () -> school.keep(learner) ? 1 : 0);
        });
    }

    private void reading() {
        each(LEARNERS, learner -> {
            each(TEXTS, text -> tell("read", () -> school.read(learner, text)));
            tell("next", () -> school.next(learner));
        });
    }

    private void answers() {
        each(LEARNERS, learner -> {
            each(ITEMS, time -> tell("answer", () -> school.answer(learner, time % 2 == learner % 2)));
            tell("ability", () -> school.ability(learner));
        });
    }

    /** One LEARNER comes to know one FORM behind the other; what is READY tells the NEEDS. */
    private void needs() {
        int learner = tell("learner", () -> school.learner(0));
        each(FORMS, form -> {
            each(6, time -> tell("correct", () -> school.correct(learner, form, TongueSchool.EXPLICIT)));
            tell("forms", () -> school.forms(learner, 1));
        });
    }
}
