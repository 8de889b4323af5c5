import java.util.function.Consumer;

/** No call that throws, and none that only looks, changes what any later call shows. */
final class RefusalsTest {
    private RefusalsTest() {
    }

    /** Something of everything is there, and counted but not yet full. */
    private static School busySchool() {
        School school = new School();
        school.form(0);
        school.form(1);
        school.form(3);
        school.form(0);
        school.transfer(0, 0, 1);
        school.transfer(1, 1, -1);
        for (int tongue = 0; tongue < 3; tongue++) {
            school.learner(tongue);
        }
        school.text(1);
        school.text(3);
        school.text(8);
        for (int kind = 0; kind < 3; kind++) {
            school.shelf(kind);
            school.put(kind, kind, kind == TongueSchool.TEXTS, 1);
        }
        school.item(-8);
        school.item(9);
        school.item(0);
        school.pass(3);
        school.lesson(0, 0);
        school.keep(0);
        school.lesson(0, 1);
        school.read(0, 0);
        school.talk(1, 3);
        school.talk(1, 3);
        Schools.upset(school, 1, 3);
        Schools.makeFossil(school, 2, 3);
        school.correct(2, 3, Schools.EXPLICIT);
        school.abroad(2, 4);
        school.answer(0, true);
        school.answer(1, false);
        return school;
    }

    private static School fullSchool() {
        School school = Schools.with(12, 6);
        for (int item = 0; item < 12; item++) {
            school.item(item);
        }
        for (int text = 0; text < 10; text++) {
            school.text(1 << text);
        }
        for (int shelf = 0; shelf < 4; shelf++) {
            school.shelf(TongueSchool.ANY);
            school.put(shelf, 0, false, shelf);
        }
        for (int learner = 0; learner < 6; learner++) {
            school.lesson(learner, learner);
        }
        return school;
    }

    static void refusals_ofWhatIsNotThereChangeNothing() {
        School s = busySchool();
        Check.noSuch(s, () -> s.transfer(4, 0, -1), () -> s.transfer(0, 4, -1), () -> s.learner(4),
                () -> s.lesson(3, 0), () -> s.lesson(0, 4), () -> s.talk(3, 1), () -> s.correct(3, 0, 2),
                () -> s.correct(0, 4, 2), () -> s.abroad(3, 9), () -> s.keep(3), () -> s.back(3), () -> s.read(3, 0),
                () -> s.read(0, 3), () -> s.put(3, 0, true, 0), () -> s.put(0, 5, true, 0), () -> s.put(0, 0, true, 3),
                () -> s.put(1, 0, false, 4), () -> s.answer(3, true));
        Check.noSuch(s, () -> s.transfer(-1, 0, -1), () -> s.transfer(0, -1, -1), () -> s.learner(-1),
                () -> s.lesson(-1, 0), () -> s.lesson(0, -1), () -> s.talk(-1, 1), () -> s.correct(-1, 0, 2),
                () -> s.correct(0, -1, 2), () -> s.abroad(-1, 9), () -> s.keep(-1), () -> s.back(-1), () -> s.read(-1, 0),
                () -> s.read(0, -1), () -> s.put(-1, 0, true, 0), () -> s.put(0, -1, true, 0), () -> s.put(0, 0, true, -1),
                () -> s.put(1, 0, false, -1), () -> s.answer(-1, true));
    }

    static void refusals_ofWhatIsOutOfRangeChangeNothing() {
        School s = busySchool();
        Check.badArgument(s, () -> s.form(16), () -> s.form(-1), () -> s.transfer(0, 0, 2), () -> s.transfer(0, 0, -2),
                () -> s.pass(0), () -> s.pass(31), () -> s.talk(0, 0), () -> s.talk(0, 31), () -> s.talk(2, 1 << 31 | 1),
                () -> s.correct(0, 0, 3), () -> s.correct(0, 0, -1), () -> s.abroad(0, 10), () -> s.abroad(0, -1),
                () -> s.text(0), () -> s.text(17), () -> s.shelf(3), () -> s.shelf(-1), () -> s.item(65), () -> s.item(-65));
    }

    static void refusals_ofWhatCannotBeNowChangeNothing() {
        School s = busySchool();
        Check.badState(s, () -> s.lesson(0, 2), () -> s.lesson(1, 1), () -> s.talk(1, 15), () -> s.talk(1, 1),
                () -> s.back(1), () -> s.back(2), () -> s.read(0, 0), () -> s.read(1, 1));
        s.lesson(0, 3);
        Check.badState(s, () -> s.lesson(0, 3), () -> s.lesson(0, 0));
        Check.wrongKind(s, () -> s.put(0, 0, false, 0), () -> s.put(0, 3, false, 3), () -> s.put(1, 1, true, 0));
        s.answer(0, true);
        s.answer(0, false);
        Check.badState(s, () -> s.answer(0, true), () -> s.answer(0, false));
    }

    static void refusals_ofAFullSchoolChangeNothing() {
        School s = fullSchool();
        Check.badState(s, () -> s.form(0), () -> s.form(4095), () -> s.learner(0), () -> s.learner(3), () -> s.text(1),
                () -> s.text(4095), () -> s.shelf(0), () -> s.shelf(2), () -> s.item(0), () -> s.item(64));
    }

    static void looks_changeNothing() {
        School plain = busySchool();
        showsTheSame(plain, s -> s.day());
        for (int learner = 0; learner < 3; learner++) {
            int one = learner;
            showsTheSame(plain, s -> s.strength(one, 1));
            showsTheSame(plain, s -> s.level(one));
            for (int what = 0; what < 4; what++) {
                int set = what;
                showsTheSame(plain, s -> s.forms(one, set));
            }
            showsTheSame(plain, s -> s.isHushed(one));
            showsTheSame(plain, s -> s.cause(one, 3));
            showsTheSame(plain, s -> s.next(one));
            showsTheSame(plain, s -> s.at(one, 1));
            showsTheSame(plain, s -> s.difficulty(one));
            showsTheSame(plain, s -> s.ability(one));
            for (int lessons = 1; lessons <= 3; lessons++) {
                int many = lessons;
                showsTheSame(plain, s -> s.plan(one, many, many - 1));
                showsTheSame(plain, s -> s.total(one, many));
                showsTheSame(plain, s -> s.totalAnew(one, many));
            }
        }
        showsTheSame(plain, s -> s.group(7));
        showsTheSame(plain, s -> s.cost(7));
    }

    private static void showsTheSame(School plain, Consumer<School> look) {
        School looked = plain.again();
        look.accept(looked);
        LaterCalls.showTheSame(plain, looked);
    }
}
