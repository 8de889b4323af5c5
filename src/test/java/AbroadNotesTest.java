/** Promises 9 to 11. */
final class AbroadNotesTest {
    private AbroadNotesTest() {
    }

    static void p09_abroadGrowsWhatIsReady() {
        TongueSchool school = Schools.with(1, 2);
        school.form(1);
        school.form(0);
        Check.same("level", 0, school.abroad(0, 9));
        Check.bits("READY", 0.140625f, school.strength(0, 0));
        Check.bits("not READY", 0f, school.strength(0, 1));
        Check.bits("READY", 0.140625f, school.strength(0, 2));
        Check.bits("another LEARNER", 0f, school.strength(1, 0));
        Check.same("day", 0, school.day());
    }

    static void p09_friendsCount() {
        for (int friends = 0; friends <= 9; friends++) {
            TongueSchool school = Schools.with(1, 1);
            school.lesson(0, 0);
            Check.same("level", 0, school.abroad(0, friends));
            Check.bits("friends " + friends, Schools.grown(0.25f, 0.015625f * friends), school.strength(0, 0));
        }
    }

    static void p09_whatBecomesReadyOnTheWayDoesNotGrow() {
        TongueSchool school = Schools.atJustBelowHalf(2);
        Check.same("level", 1, school.abroad(0, 1));
        Check.bits("READY as they went", Schools.grown(Schools.BELOW_HALF, 0.015625f), school.strength(0, 0));
        Check.bits("READY then", 0f, school.strength(0, 1));
        school.abroad(0, 1);
        Check.bits("next time", 0.015625f, school.strength(0, 1));
    }

    static void p09_abroadIsNoLessonAndGoesForTheHushedToo() {
        TongueSchool school = Schools.with(1, 1);
        for (int time = 0; time < 3; time++) {
            school.lesson(0, 0);
            school.correct(0, 0, TongueSchool.EXPLICIT);
        }
        Check.same("level", 1, school.abroad(0, 2));
        Check.same("HUSHED still", true, school.isHushed(0));
        Check.badState(school, () -> school.lesson(0, 0));
        TongueSchool other = Schools.with(1, 1);
        other.abroad(0, 9);
        Check.same("taught", 0, other.forms(0, 3));
    }

    static void p09_abroadRefuses() {
        TongueSchool school = Schools.with(1, 1);
        Check.noSuch(school, () -> school.abroad(1, 0));
        Check.noSuch(school, () -> school.abroad(-1, 10));
        Check.badArgument(school, () -> school.abroad(0, 10));
        Check.badArgument(school, () -> school.abroad(0, -1));
        Check.badArgument(school, () -> school.abroad(0, Integer.MAX_VALUE));
        Check.badArgument(school, () -> school.abroad(0, Integer.MIN_VALUE));
    }

    static void p10_keepTellsWhetherThereWasANote() {
        TongueSchool school = Schools.with(1, 2);
        Check.same("the first", false, school.keep(0));
        Check.same("the second", true, school.keep(0));
        Check.same("another LEARNER", false, school.keep(1));
        school.back(0);
        Check.same("the note stays", true, school.keep(0));
        Check.noSuch(school, () -> school.keep(2));
        Check.noSuch(school, () -> school.keep(-1));
        Check.noSuch(school, () -> school.keep(Integer.MIN_VALUE));
    }

    static void p10_aNewNoteReplacesTheOldOne() {
        TongueSchool school = Schools.with(1, 1);
        school.lesson(0, 0);
        school.keep(0);
        float strength = Float.intBitsToFloat(school.lesson(0, 0));
        school.keep(0);
        school.lesson(0, 0);
        Check.same("level", 0, school.back(0));
        Check.bits("the newer", strength, school.strength(0, 0));
    }

    static void p11_backBringsStrengthsAndNothingElse() {
        TongueSchool school = Schools.with(2, 1);
        Schools.makeKnown(school, 0, 0);
        school.keep(0);
        school.lesson(0, 1);
        school.lesson(0, 1);
        Schools.makeFossil(school, 0, 1);
        school.correct(0, 1, TongueSchool.EXPLICIT);
        school.item(8);
        school.answer(0, true);
        Check.same("level", 1, school.back(0));
        Check.bits("strength", 0.5f, school.strength(0, 0));
        Check.bits("strength", 0f, school.strength(0, 1));
        Check.same("taught", 3, school.forms(0, 3));
        Check.same("FOSSILS", 2, school.forms(0, 2));
        Check.bits("ability", 1f, school.ability(0));
        Check.badState(school, () -> school.lesson(0, 0));
        school.correct(0, 1, TongueSchool.EXPLICIT);
        Check.same("corrected twice since it became one", 0, school.forms(0, 2));
        school.correct(0, 1, TongueSchool.EXPLICIT);
        Check.same("upset three times", true, school.isHushed(0));
    }

    static void p11_theNoteStaysAsItWas() {
        TongueSchool school = Schools.with(1, 1);
        school.lesson(0, 0);
        school.keep(0);
        school.pass(3);
        school.back(0);
        Check.bits("once", 0.25f, school.strength(0, 0));
        school.lesson(0, 0);
        school.back(0);
        Check.bits("twice", 0.25f, school.strength(0, 0));
        Check.same("day", 3, school.day());
    }

    static void p11_laterFormsHaveNothingThen() {
        TongueSchool school = Schools.with(1, 1);
        school.lesson(0, 0);
        school.keep(0);
        school.form(0);
        Schools.makeKnown(school, 0, 1);
        Check.same("level", 0, school.back(0));
        Check.bits("the later FORM", 0f, school.strength(0, 1));
        Check.bits("the older FORM", 0.25f, school.strength(0, 0));
    }

    static void p11_backRefuses() {
        TongueSchool school = Schools.with(1, 2);
        school.keep(0);
        Check.badState(school, () -> school.back(1));
        Check.noSuch(school, () -> school.back(2));
        Check.noSuch(school, () -> school.back(-1));
        Check.noSuch(school, () -> school.back(Integer.MAX_VALUE));
    }
}
