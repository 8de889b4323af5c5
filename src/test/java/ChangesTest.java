import java.util.function.Consumer;
import java.util.function.ObjIntConsumer;

/**
 * What a call changes, and that it changes nothing else: behind it, all that later calls show is what
 * the SlowSchool shows. The school is busy: whatever a call could upset has begun and is not yet full.
 */
final class ChangesTest {
    private static final int LEARNERS = 4, NOTED = 3;

    private ChangesTest() {
    }

    private static School busySchool() {
        School school = new School();
        int[] needs = {0, 1, 3, 0, 8, 17};
        for (int each : needs) {
            school.form(each);
        }
        school.transfer(0, 1, 1);
        school.transfer(1, 1, -1);
        school.transfer(2, 0, 1);
        school.transfer(3, 5, -1);
        for (int learner = 0; learner < LEARNERS; learner++) {
            school.learner(learner);
        }
        addThings(school);
        for (int learner = 0; learner < LEARNERS; learner++) {
            Schools.makeKnownUntaught(school, learner, 0);
            Schools.makeKnownUntaught(school, learner, 3);
        }
        school.pass(2);
        for (int learner = 0; learner < LEARNERS; learner++) {
            keepBusy(school, learner);
        }
        return school;
    }

    private static void addThings(School school) {
        int[] texts = {1, 2, 9, 4};
        for (int forms : texts) {
            school.text(forms);
        }
        school.shelf(TongueSchool.TEXTS);
        school.shelf(TongueSchool.ANY);
        school.put(0, 4, true, 3);
        school.put(1, 0, true, 0);
        school.put(1, 1, false, 0);
        school.item(-8);
        school.item(9);
        school.item(0);
    }

    /** Errors, a FOSSIL, lessons, upsets, a note that is not of now, a TEXT and an ITEM. */
    private static void keepBusy(School school, int learner) {
        school.talk(learner, 2 | 4 | 32);
        school.talk(learner, 4 | 32);
        school.talk(learner, 4);
        school.lesson(learner, 1);
        school.lesson(learner, 4);
        school.correct(learner, learner % 2 == 0 ? 2 : 3, Schools.EXPLICIT);
        school.correct(learner, 1, Schools.EXPLICIT);
        if (learner < NOTED) {
            school.keep(learner);
        }
        school.abroad(learner, 2);
        school.read(learner, learner);
        school.answer(learner, learner % 2 == 0);
    }

    private static void changes(Consumer<School> call) {
        School school = busySchool();
        call.accept(school);
        LaterCalls.showThatOfTheSlowSchool(school);
    }

    private static void changesOfEach(int learners, ObjIntConsumer<School> call) {
        for (int learner = 0; learner < learners; learner++) {
            int one = learner;
            changes(school -> call.accept(school, one));
        }
    }

    @Holds("Adds a FORM.")
    static void p02_changes_aForm() {
        changes(s -> s.form(0));
        changes(s -> s.form(63));
    }

    @Holds("Tells how a TONGUE bears on a FORM.")
    static void p03_changes_aTransfer() {
        for (int how = -1; how <= 1; how++) {
            int told = how;
            changes(s -> s.transfer(1, 1, told));
            changes(s -> s.transfer(3, 0, told));
        }
    }

    @Holds("Adds a LEARNER.")
    static void p04_changes_aLearner() {
        changes(s -> s.learner(1));
    }

    @Holds("Gives a lesson.")
    static void p05_changes_aLesson() {
        changesOfEach(LEARNERS, (s, learner) -> s.lesson(learner, 1));
        changesOfEach(LEARNERS, (s, learner) -> s.lesson(learner, 3));
    }

    @Holds("Lets days pass.")
    static void p06_changes_days() {
        changes(s -> s.pass(1));
        changes(s -> s.pass(30));
    }

    @Holds("Lets a LEARNER talk.")
    static void p07_changes_talk() {
        changesOfEach(LEARNERS, (s, learner) -> s.talk(learner, 1));
        changesOfEach(LEARNERS, (s, learner) -> s.talk(learner, 2));
        changesOfEach(LEARNERS, (s, learner) -> s.talk(learner, 32));
        changesOfEach(LEARNERS, (s, learner) -> s.talk(learner, 63));
    }

    @Holds("Corrects a LEARNER.")
    static void p08_changes_aCorrection() {
        for (int way = Schools.RECAST; way <= Schools.EXPLICIT; way++) {
            int taken = way;
            changesOfEach(LEARNERS, (s, learner) -> s.correct(learner, 0, taken));
            changesOfEach(LEARNERS, (s, learner) -> s.correct(learner, 2, taken));
            changesOfEach(LEARNERS, (s, learner) -> s.correct(learner, 5, taken));
        }
    }

    @Holds("Sends a LEARNER abroad.")
    static void p09_changes_aYearAbroad() {
        changesOfEach(LEARNERS, (s, learner) -> s.abroad(learner, 0));
        changesOfEach(LEARNERS, (s, learner) -> s.abroad(learner, 9));
    }

    @Holds("Keeps a note of a LEARNER, in place of one that there is.")
    static void p10_changes_aNote() {
        changesOfEach(LEARNERS, (s, learner) -> s.keep(learner));
    }

    @Holds({"Takes a LEARNER back to the note, which stays.", "nothing else changes"})
    static void p11_changes_theWayBack() {
        changesOfEach(NOTED, (s, learner) -> s.back(learner));
    }

    @Holds("Adds a TEXT.")
    static void p12_changes_aText() {
        changes(s -> s.text(1));
        changes(s -> s.text(63));
    }

    @Holds("A LEARNER reads a TEXT.")
    static void p13_changes_reading() {
        changesOfEach(LEARNERS, (s, learner) -> s.read(learner, (learner + 1) % LEARNERS));
    }

    @Holds("Adds a SHELF.")
    static void p14_changes_aShelf() {
        for (int kind = TongueSchool.TEXTS; kind <= TongueSchool.ANY; kind++) {
            int added = kind;
            changes(s -> s.shelf(added));
        }
    }

    @Holds("Puts something at a place of a SHELF.")
    static void p15_changes_whatIsPut() {
        changes(s -> s.put(0, 0, true, 2));
        changes(s -> s.put(1, 0, false, 5));
        changes(s -> s.put(1, 1, true, 3));
    }

    @Holds("Adds an ITEM.")
    static void p16_changes_anItem() {
        changes(s -> s.item(1));
        changes(s -> s.item(-64));
    }

    @Holds("A LEARNER answers the ITEM to ask.")
    static void p17_changes_anAnswer() {
        changesOfEach(LEARNERS, (s, learner) -> s.answer(learner, true));
        changesOfEach(LEARNERS, (s, learner) -> s.answer(learner, false));
    }
}
