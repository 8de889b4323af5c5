/** Promises 1 to 4. */
final class FormsLearnersTest {
    private FormsLearnersTest() {
    }

    static void p01_aNewSchoolHasNothing() {
        TongueSchool school = new TongueSchool();
        Check.same("day", 0, school.day());
        Check.noSuch(school, () -> school.level(0));
        Check.noSuch(school, () -> school.transfer(0, 0, 0));
        Check.noSuch(school, () -> school.at(0, 0));
        Check.noSuch(school, () -> school.difficulty(0));
        Check.badArgument(school, () -> school.text(1));
        Check.badArgument(school, () -> school.group(1));
        Check.same("the first FORM", 0, school.form(0));
        Check.same("the first LEARNER", 0, school.learner(0));
    }

    static void p01_theConstants() {
        Check.same("NONE", -1, TongueSchool.NONE);
        Check.same("TEXTS", 0, TongueSchool.TEXTS);
        Check.same("FORMS", 1, TongueSchool.FORMS);
        Check.same("ANY", 2, TongueSchool.ANY);
        Check.same("RECAST", 0, TongueSchool.RECAST);
        Check.same("PROMPT", 1, TongueSchool.PROMPT);
        Check.same("EXPLICIT", 2, TongueSchool.EXPLICIT);
    }

    static void p01_schoolsShareNothing() {
        TongueSchool one = Schools.with(2, 1);
        TongueSchool other = new TongueSchool();
        one.lesson(0, 0);
        one.pass(3);
        Check.same("day of the other", 0, other.day());
        Check.same("its first FORM", 0, other.form(0));
        Check.same("its first LEARNER", 0, other.learner(1));
        Check.bits("its strength", 0f, other.strength(0, 0));
    }

    static void p02_formsAreNumberedUpToTwelve() {
        TongueSchool school = new TongueSchool();
        for (int form = 0; form < 12; form++) {
            Check.same("form", form, school.form((1 << form) - 1));
        }
        Check.badState(school, () -> school.form(0));
        Check.badState(school, () -> school.form(4095));
        Check.badArgument(school, () -> school.form(4096));
        Check.badArgument(school, () -> school.form(-1));
    }

    static void p02_needsAreLowerForms() {
        TongueSchool school = new TongueSchool();
        Check.badArgument(school, () -> school.form(1));
        school.form(0);
        school.form(1);
        Check.badArgument(school, () -> school.form(4));
        Check.badArgument(school, () -> school.form(7));
        Check.badArgument(school, () -> school.form(-1));
        Check.badArgument(school, () -> school.form(Integer.MIN_VALUE));
        Check.badArgument(school, () -> school.form(Integer.MAX_VALUE));
        Check.same("form", 2, school.form(3));
    }

    static void p02_needsDecideWhatIsReady() {
        TongueSchool school = Schools.with(2, 1);
        school.form(3);
        school.form(2);
        Check.same("READY at first", 3, school.forms(0, 1));
        Schools.makeKnown(school, 0, 1);
        Check.same("READY with 1", 11, school.forms(0, 1));
        Schools.makeKnown(school, 0, 0);
        Check.same("READY with both", 15, school.forms(0, 1));
    }

    static void p03_transferReturnsWhatItWas() {
        TongueSchool school = Schools.with(2, 0);
        Check.same("at first", 0, school.transfer(3, 1, -1));
        Check.same("then", -1, school.transfer(3, 1, 1));
        Check.same("then", 1, school.transfer(3, 1, 0));
        Check.same("then", 0, school.transfer(3, 1, 0));
        Check.same("another FORM", 0, school.transfer(3, 0, 1));
        Check.same("another TONGUE", 0, school.transfer(2, 0, 1));
        Check.same("the first TONGUE", 0, school.transfer(0, 1, 1));
    }

    static void p03_transferRefuses() {
        TongueSchool school = Schools.with(2, 1);
        school.transfer(0, 1, 1);
        Check.noSuch(school, () -> school.transfer(4, 0, 0));
        Check.noSuch(school, () -> school.transfer(-1, 0, 0));
        Check.noSuch(school, () -> school.transfer(0, 2, 0));
        Check.noSuch(school, () -> school.transfer(0, -1, 0));
        Check.noSuch(school, () -> school.transfer(Integer.MIN_VALUE, Integer.MAX_VALUE, 0));
        Check.badArgument(school, () -> school.transfer(0, 0, 2));
        Check.badArgument(school, () -> school.transfer(0, 0, -2));
        Check.badArgument(school, () -> school.transfer(3, 1, Integer.MIN_VALUE));
        Check.noSuch(school, () -> school.transfer(4, 0, 2));
        Check.noSuch(school, () -> school.transfer(0, 2, 2));
    }

    static void p03_transferBearsOnLessonsOfThatTongueAlone() {
        TongueSchool school = Schools.withTongues(1);
        Check.bits("neither", 0.25f, school.lesson(0, 0));
        Check.bits("HELPS", 0.5f, school.lesson(1, 0));
        Check.bits("HINDERS", 0.125f, school.lesson(2, 0));
    }

    static void p04_learnersAreNumberedUpToSix() {
        TongueSchool school = Schools.with(1, 0);
        for (int learner = 0; learner < 6; learner++) {
            Check.same("learner", learner, school.learner(learner % 4));
            Check.bits("strength at first", 0f, school.strength(learner, 0));
            Check.bits("ability at first", 0f, school.ability(learner));
        }
        Check.badState(school, () -> school.learner(0));
        Check.badState(school, () -> school.learner(3));
        Check.noSuch(school, () -> school.learner(4));
        Check.noSuch(school, () -> school.learner(-1));
    }

    static void p04_learnerRefusesOtherTongues() {
        TongueSchool school = new TongueSchool();
        Check.noSuch(school, () -> school.learner(4));
        Check.noSuch(school, () -> school.learner(-1));
        Check.noSuch(school, () -> school.learner(Integer.MIN_VALUE));
        Check.noSuch(school, () -> school.learner(Integer.MAX_VALUE));
        Check.same("the first", 0, school.learner(3));
    }

    static void p04_aFormThatComesLaterHasNoStrength() {
        TongueSchool school = Schools.with(1, 1);
        school.lesson(0, 0);
        school.form(0);
        Check.bits("strength of the later FORM", 0f, school.strength(0, 1));
    }
}
