/** Promises 5, 6, 18, 19, 20 and 21. */
final class LessonsTest {
    private LessonsTest() {
    }

    static void p05_lessonsGrowByTheTongue() {
        TongueSchool school = Schools.withTongues(1);
        float[] gains = {0.25f, 0.5f, 0.125f};
        for (int learner = 0; learner < 3; learner++) {
            float strength = 0f;
            for (int time = 0; time < 3; time++) {
                strength = Schools.grown(strength, gains[learner]);
                Check.bits("lesson", strength, school.lesson(learner, 0));
                Check.bits("strength", strength, school.strength(learner, 0));
            }
        }
    }

    static void p05_lessonsOfAFossilGrowByHalf() {
        TongueSchool school = Schools.withTongues(1);
        float[] gains = {0.125f, 0.25f, 0.0625f};
        for (int learner = 0; learner < 3; learner++) {
            Schools.makeFossil(school, learner, 0);
            Check.bits("lesson", gains[learner], school.lesson(learner, 0));
        }
    }

    static void p05_atMostThreeLessonsADay() {
        TongueSchool school = Schools.with(4, 2);
        school.lesson(0, 0);
        school.lesson(0, 1);
        school.lesson(0, 2);
        Check.badState(school, () -> school.lesson(0, 3));
        Check.badState(school, () -> school.lesson(0, 0));
        Check.bits("another LEARNER", 0.25f, school.lesson(1, 3));
        school.pass(1);
        Check.bits("on the next day", 0.25f, school.lesson(0, 3));
        school.lesson(0, 3);
        school.lesson(0, 3);
        Check.badState(school, () -> school.lesson(0, 3));
    }

    static void p05_lessonsOfReadyFormsAlone() {
        TongueSchool school = Schools.with(1, 1);
        school.form(1);
        Check.badState(school, () -> school.lesson(0, 1));
        school.lesson(0, 0);
        Check.badState(school, () -> school.lesson(0, 1));
        school.lesson(0, 0);
        Check.badState(school, () -> school.lesson(0, 1));
        Check.bits("the third", 0.578125f, school.lesson(0, 0));
        school.pass(1);
        Check.bits("once it is READY", 0.25f, school.lesson(0, 1));
    }

    static void p05_lessonRefuses() {
        TongueSchool school = Schools.with(1, 1);
        Check.noSuch(school, () -> school.lesson(1, 0));
        Check.noSuch(school, () -> school.lesson(-1, 0));
        Check.noSuch(school, () -> school.lesson(0, 1));
        Check.noSuch(school, () -> school.lesson(0, -1));
        Check.noSuch(school, () -> school.lesson(6, 12));
        Check.noSuch(school, () -> school.lesson(Integer.MAX_VALUE, Integer.MIN_VALUE));
        for (int time = 0; time < 3; time++) {
            school.lesson(0, 0);
        }
        Check.noSuch(school, () -> school.lesson(0, 1));
        Check.noSuch(school, () -> school.lesson(1, 0));
    }

    static void p05_aRefusedLessonIsNotCounted() {
        TongueSchool school = Schools.with(1, 1);
        school.form(1);
        for (int time = 0; time < 5; time++) {
            Check.badState(school, () -> school.lesson(0, 1));
        }
        school.lesson(0, 0);
        school.lesson(0, 0);
        Check.bits("the third", 0.578125f, school.lesson(0, 0));
    }

    static void p06_daysMakeForget() {
        TongueSchool school = Schools.withTongues(1);
        school.lesson(0, 0);
        school.lesson(1, 0);
        Check.same("day", 1, school.pass(1));
        Check.bits("not KNOWN", 0.25f * 0.875f, school.strength(0, 0));
        Check.bits("KNOWN", 0.5f * 0.96875f, school.strength(1, 0));
        school.pass(1);
        Check.bits("no longer KNOWN", 0.5f * 0.96875f * 0.875f, school.strength(1, 0));
    }

    static void p06_eachDayForgetsByItself() {
        TongueSchool school = Schools.with(2, 1);
        float strength = 0f;
        for (int time = 0; time < 3; time++) {
            strength = Schools.grown(strength, 0.25f);
            school.lesson(0, 0);
        }
        Check.same("day", 30, school.pass(30));
        for (int night = 0; night < 30; night++) {
            strength = strength >= 0.5f ? strength * 0.96875f : strength * 0.875f;
        }
        Check.bits("after thirty days", strength, school.strength(0, 0));
        Check.bits("of the other FORM", 0f, school.strength(0, 1));
    }

    static void p06_atAndBelowHalfForgetDifferently() {
        TongueSchool below = Schools.atJustBelowHalf(1);
        Check.bits("strength", Schools.BELOW_HALF, below.strength(0, 0));
        below.pass(1);
        Check.bits("just below 0.5f", Schools.BELOW_HALF * 0.875f, below.strength(0, 0));
        TongueSchool at = Schools.with(1, 1);
        Schools.makeKnown(at, 0, 0);
        at.pass(1);
        Check.bits("at 0.5f", 0.5f * 0.96875f, at.strength(0, 0));
    }

    static void p06_nobodyIsHushedAnyMore() {
        TongueSchool school = Schools.with(1, 2);
        for (int learner = 0; learner < 2; learner++) {
            for (int time = 0; time < 4; time++) {
                school.correct(learner, 0, TongueSchool.EXPLICIT);
            }
            Check.same("HUSHED", true, school.isHushed(learner));
        }
        school.pass(1);
        for (int learner = 0; learner < 2; learner++) {
            Check.same("HUSHED", false, school.isHushed(learner));
            school.correct(learner, 0, TongueSchool.EXPLICIT);
            school.correct(learner, 0, TongueSchool.EXPLICIT);
            Check.same("upset twice on the new day", false, school.isHushed(learner));
        }
    }

    static void p06_theLastDayIs999() {
        TongueSchool school = Schools.with(1, 1);
        school.lesson(0, 0);
        for (int month = 0; month < 33; month++) {
            Check.same("day", 30 * month + 30, school.pass(30));
        }
        Check.badState(school, () -> school.pass(10));
        Check.badState(school, () -> school.pass(30));
        Check.same("day", 998, school.pass(8));
        Check.badState(school, () -> school.pass(2));
        Check.same("day", 999, school.pass(1));
        Check.badState(school, () -> school.pass(1));
        Check.badArgument(school, () -> school.pass(0));
        Check.badArgument(school, () -> school.pass(31));
        Check.same("day", 999, school.day());
    }

    static void p06_passRefuses() {
        TongueSchool school = Schools.with(1, 1);
        school.lesson(0, 0);
        Check.badArgument(school, () -> school.pass(0));
        Check.badArgument(school, () -> school.pass(-1));
        Check.badArgument(school, () -> school.pass(31));
        Check.badArgument(school, () -> school.pass(Integer.MAX_VALUE));
        Check.badArgument(school, () -> school.pass(Integer.MIN_VALUE));
    }

    static void p18_theDayIsCountedFromZero() {
        TongueSchool school = new TongueSchool();
        Check.same("day", 0, school.day());
        school.pass(1);
        Check.same("day", 1, school.day());
        school.pass(30);
        Check.same("day", 31, school.day());
    }

    static void p19_strengthRefuses() {
        TongueSchool school = Schools.with(2, 2);
        Check.bits("strength", 0f, school.strength(1, 1));
        Check.noSuch(school, () -> school.strength(2, 0));
        Check.noSuch(school, () -> school.strength(-1, 0));
        Check.noSuch(school, () -> school.strength(0, 2));
        Check.noSuch(school, () -> school.strength(0, -1));
        Check.noSuch(school, () -> school.strength(Integer.MAX_VALUE, Integer.MIN_VALUE));
    }

    static void p19_strengthsTellTheBitsDownToTheLeastFloats() {
        TongueSchool school = Schools.with(1, 1);
        float strength = 0.25f;
        school.lesson(0, 0);
        for (int night = 0; night < 480; night++) {
            school.pass(2);
            strength = strength * 0.875f;
            strength = strength * 0.875f;
            Check.bits("on the day " + school.day(), strength, school.strength(0, 0));
        }
        if (strength >= Float.MIN_NORMAL || strength == 0f) {
            throw new AssertionError("the test should come to subnormal floats");
        }
    }

    static void p19_strengthsTellTheBitsUpToOne() {
        TongueSchool school = Schools.withTongues(1);
        float strength = 0f;
        for (int time = 0; time < 200; time++) {
            strength = Schools.grown(strength, 0.125f);
            Check.bits("correct", strength, school.correct(0, 0, TongueSchool.EXPLICIT));
        }
        Check.bits("strength", strength, school.strength(0, 0));
    }

    static void p20_levelCountsKnownForms() {
        TongueSchool school = Schools.with(12, 1);
        for (int form = 0; form < 12; form++) {
            Check.same("level", form, school.level(0));
            Schools.makeKnown(school, 0, form);
            school.keep(0);
            school.pass(1);
            school.back(0);
        }
        Check.same("level", 12, school.level(0));
        Check.noSuch(school, () -> school.level(1));
        Check.noSuch(school, () -> school.level(-1));
        Check.noSuch(school, () -> school.level(Integer.MIN_VALUE));
    }

    static void p20_levelAtAndJustBelowHalf() {
        Check.same("just below", 0, Schools.atJustBelowHalf(1).level(0));
        TongueSchool at = Schools.with(1, 1);
        Schools.makeKnown(at, 0, 0);
        Check.same("at", 1, at.level(0));
    }

    static void p21_formsTellsFourSets() {
        TongueSchool school = Schools.with(3, 1);
        school.form(1);
        Schools.makeKnown(school, 0, 0);
        Schools.makeFossil(school, 0, 2);
        school.lesson(0, 3);
        Check.same("KNOWN", 1, school.forms(0, 0));
        Check.same("READY", 15, school.forms(0, 1));
        Check.same("FOSSILS", 4, school.forms(0, 2));
        Check.same("taught", 9, school.forms(0, 3));
    }

    static void p21_taughtStaysWhenAllElseIsForgotten() {
        TongueSchool school = Schools.with(2, 1);
        school.lesson(0, 1);
        school.pass(30);
        school.correct(0, 0, TongueSchool.EXPLICIT);
        Check.same("taught", 2, school.forms(0, 3));
    }

    static void p21_readyAtAndJustBelowHalf() {
        TongueSchool below = Schools.atJustBelowHalf(2);
        Check.same("READY just below", 1, below.forms(0, 1));
        Check.same("KNOWN just below", 0, below.forms(0, 0));
        Check.badState(below, () -> below.lesson(0, 1));
        TongueSchool at = Schools.with(1, 1);
        at.form(1);
        Schools.makeKnown(at, 0, 0);
        Check.same("READY at", 3, at.forms(0, 1));
        Check.same("KNOWN at", 1, at.forms(0, 0));
    }

    static void p21_formsRefuses() {
        TongueSchool school = Schools.with(1, 1);
        Check.noSuch(school, () -> school.forms(1, 0));
        Check.noSuch(school, () -> school.forms(-1, 4));
        Check.badArgument(school, () -> school.forms(0, 4));
        Check.badArgument(school, () -> school.forms(0, -1));
        Check.badArgument(school, () -> school.forms(0, Integer.MAX_VALUE));
        Check.badArgument(school, () -> school.forms(0, Integer.MIN_VALUE));
        TongueSchool empty = Schools.with(0, 1);
        for (int what = 0; what < 4; what++) {
            Check.same("without FORMS", 0, empty.forms(0, what));
        }
    }
}
