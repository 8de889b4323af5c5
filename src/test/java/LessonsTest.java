/** Promises 5 and 6. */
final class LessonsTest {
    private static final String NO_LEARNER_OR_FORM =
            "Throws `IndexOutOfBoundsException` if there is no such LEARNER or FORM";
    private static final String NOT_READY_OR_3 =
            "Throws `IllegalStateException` if it is not READY, or the LEARNER had 3 lessons on this day";
    private static final String BAD_DAYS = "Throws `IllegalArgumentException` if days is out of range";
    private static final String ABOVE_999 = "Throws `IllegalStateException` if it would be above 999";
    private static final String AT_MOST_3 = "A LEARNER has at most 3 lessons a day.";
    private static final String FORGETTING =
            "becomes s * 0.96875f, if its FORM was KNOWN ahead of that, otherwise s * 0.875f";
    private static final String FIRST_NAMED = "the one that is named first in the throws clause is thrown";

    private LessonsTest() {
    }

    // ---- 5: lesson

    @Holds({"Gives a lesson.", "Returns the strength then.",
        "by 0.25f, by 0.5f if the TONGUE HELPS it, by 0.125f if it HINDERS it",
        "To GROW a strength s by a gain g is to make it s + (1f - s) * g.",
        "All strengths, gains, abilities and difficulties are floats"})
    static void p05_lesson_growsByTheTongue() {
        School school = Schools.withTongues(1);
        float[] gains = {0.25f, 0.5f, 0.125f};
        for (int learner = 0; learner < 3; learner++) {
            float strength = 0f;
            for (int time = 0; time < 3; time++) {
                strength = Schools.grown(strength, gains[learner]);
                Check.bits("lesson", strength, school.lesson(learner, 0));
                Check.bits("strength", strength, school.strength(learner, 0));
            }
        }
    }

    @Holds("but by that times 0.5f, if it is a FOSSIL")
    static void p05_lesson_ofAFossilGrowsByHalf() {
        School school = Schools.withTongues(1);
        float[] gains = {0.125f, 0.25f, 0.0625f};
        for (int learner = 0; learner < 3; learner++) {
            Schools.makeFossil(school, learner, 0);
            Check.bits("lesson", gains[learner], school.lesson(learner, 0));
            Check.same("FOSSIL still", 1, school.forms(learner, Schools.FOSSILS));
        }
    }

    @Holds("but by that times 0.5f, if it is a FOSSIL")
    static void p05_lesson_ofAnotherFormThanTheFossilGrowsByAll() {
        School school = Schools.with(2, 2);
        Schools.makeFossil(school, 0, 0);
        Check.bits("another FORM", 0.25f, school.lesson(0, 1));
        Check.bits("another LEARNER", 0.25f, school.lesson(1, 0));
    }

    @Holds({AT_MOST_3, NOT_READY_OR_3})
    static void p05_lesson_the3rdOfADayIsGivenAndThe4thRefused() {
        School school = Schools.with(4, 2);
        school.lesson(0, 0);
        school.lesson(0, 1);
        Check.bits("the third", 0.25f, school.lesson(0, 2));
        Check.badState(school, () -> school.lesson(0, 3), () -> school.lesson(0, 0));
        Check.bits("strength", 0f, school.strength(0, 3));
        Check.same("taught", 7, school.forms(0, Schools.TAUGHT));
    }

    @Holds(AT_MOST_3)
    static void p05_lesson_the3LessonsMayBeOfOneForm() {
        School school = Schools.with(2, 1);
        school.lesson(0, 0);
        school.lesson(0, 0);
        Check.bits("the third", 0.578125f, school.lesson(0, 0));
        Check.badState(school, () -> school.lesson(0, 0), () -> school.lesson(0, 1));
    }

    @Holds(AT_MOST_3)
    static void p05_lesson_theFirstOfTheNextDayIsGiven() {
        School school = Schools.with(2, 1);
        for (int day = 0; day < 3; day++) {
            for (int time = 0; time < 3; time++) {
                school.lesson(0, 0);
            }
            Check.badState(school, () -> school.lesson(0, 0));
            school.pass(1);
        }
        Check.bits("on the next day", 0.25f, school.lesson(0, 1));
    }

    @Holds(AT_MOST_3)
    static void p05_lesson_ofOneLearnerIsNotCountedForAnother() {
        School school = Schools.with(1, 6);
        for (int learner = 0; learner < 6; learner++) {
            for (int time = 0; time < 3; time++) {
                school.lesson(learner, 0);
            }
        }
        for (int learner = 0; learner < 6; learner++) {
            int which = learner;
            Check.badState(school, () -> school.lesson(which, 0));
        }
    }

    @Holds({NOT_READY_OR_3, "Nothing is taught ahead of what it needs."})
    static void p05_lesson_ofAFormThatIsNotReadyIsRefused() {
        School school = Schools.with(2, 1);
        school.form(3);
        Check.badState(school, () -> school.lesson(0, 2));
        Schools.makeKnown(school, 0, 1);
        Check.badState(school, () -> school.lesson(0, 2));
        Schools.makeKnown(school, 0, 0);
        Check.bits("once it is READY", 0.25f, school.lesson(0, 2));
    }

    @Holds({NOT_READY_OR_3, "it is READY, if all its NEEDS are KNOWN"})
    static void p05_lesson_needsAtHalfAreEnoughAndJustBelowAreNot() {
        School below = Schools.justBelowHalf(2);
        Check.badState(below, () -> below.lesson(0, 1));
        School at = Schools.atHalf(2);
        Check.bits("at 0.5f", 0.25f, at.lesson(0, 1));
    }

    @Holds("A lesson of a READY FORM GROWS its strength")
    static void p05_lesson_ofAFormThatIsReadyNoMoreIsRefused() {
        School school = Schools.atHalf(2);
        school.lesson(0, 1);
        school.pass(1);
        Check.badState(school, () -> school.lesson(0, 1));
    }

    @Holds({NO_LEARNER_OR_FORM, "A method that takes a FORM, a TONGUE, a LEARNER"})
    static void p05_lesson_ofNoSuchLearnerIsRefused() {
        for (int learners = 0; learners <= 6; learners += 3) {
            School school = Schools.with(2, learners);
            Check.noSuchBeyond(school, learners, learner -> school.lesson(learner, 0));
        }
    }

    @Holds(NO_LEARNER_OR_FORM)
    static void p05_lesson_ofNoSuchFormIsRefused() {
        for (int forms = 0; forms <= 12; forms += 4) {
            School school = Schools.with(forms, 1);
            Check.noSuchBeyond(school, forms, form -> school.lesson(0, form));
        }
    }

    @Holds({FIRST_NAMED, NO_LEARNER_OR_FORM, NOT_READY_OR_3})
    static void p05_order_noSuchLearnerOrFormComesAheadOfTheDaysLessons() {
        School school = Schools.with(1, 1);
        for (int time = 0; time < 3; time++) {
            school.lesson(0, 0);
        }
        Check.noSuch(school, () -> school.lesson(0, 1), () -> school.lesson(1, 0), () -> school.lesson(0, -1),
                () -> school.lesson(-1, 0), () -> school.lesson(Integer.MAX_VALUE, Integer.MIN_VALUE));
    }

    @Holds({FIRST_NAMED, NO_LEARNER_OR_FORM, NOT_READY_OR_3})
    static void p05_order_noSuchLearnerComesAheadOfNotReady() {
        School school = Schools.with(1, 1);
        school.form(1);
        Check.noSuch(school, () -> school.lesson(1, 1), () -> school.lesson(-1, 1));
    }

    @Holds({"A call that throws an exception changes nothing.", AT_MOST_3})
    static void p05_lesson_refusedOnesAreNotCounted() {
        School school = Schools.with(1, 1);
        school.form(1);
        for (int time = 0; time < 5; time++) {
            Check.badState(school, () -> school.lesson(0, 1));
        }
        school.lesson(0, 0);
        school.lesson(0, 0);
        Check.bits("the third", 0.578125f, school.lesson(0, 0));
        Check.same("taught", 1, school.forms(0, Schools.TAUGHT));
    }

    // ---- 6: pass

    @Holds({"Lets days pass.", "Returns the day then.", "Days are counted from 0"})
    static void p06_pass_countsTheDays() {
        School school = new School();
        Check.same("day", 1, school.pass(1));
        Check.same("day", 31, school.pass(30));
        Check.same("day", 33, school.pass(2));
    }

    @Holds(FORGETTING)
    static void p06_pass_forgetsWhatIsKnownMoreSlowly() {
        School school = Schools.withTongues(1);
        school.lesson(Schools.NEUTRAL, 0);
        school.lesson(Schools.HELPED, 0);
        school.pass(1);
        Check.bits("not KNOWN", 0.25f * 0.875f, school.strength(Schools.NEUTRAL, 0));
        Check.bits("KNOWN", 0.5f * 0.96875f, school.strength(Schools.HELPED, 0));
        Check.bits("nothing", 0f, school.strength(Schools.HINDERED, 0));
    }

    @Holds(FORGETTING)
    static void p06_pass_atHalfAndJustBelowForgetDifferently() {
        School below = Schools.justBelowHalf(1);
        below.pass(1);
        Check.bits("just below 0.5f", Schools.BELOW_HALF * 0.875f, below.strength(0, 0));
        School at = Schools.atHalf(1);
        at.pass(1);
        Check.bits("at 0.5f", 0.5f * 0.96875f, at.strength(0, 0));
    }

    @Holds({"As a day passes, each strength s of each LEARNER", FORGETTING})
    static void p06_pass_eachOfSeveralDaysForgetsByItself() {
        School two = Schools.atHalf(1);
        two.pass(2);
        Check.bits("KNOWN on the first alone", 0.5f * 0.96875f * 0.875f, two.strength(0, 0));
        School thirty = Schools.atThreeQuarters(1);
        float strength = 0.75f;
        for (int night = 0; night < 30; night++) {
            strength = strength * (strength >= 0.5f ? 0.96875f : 0.875f);
        }
        thirty.pass(30);
        Check.bits("after thirty days", strength, thirty.strength(0, 0));
    }

    @Holds("each strength s of each LEARNER")
    static void p06_pass_isForAllFormsOfAllLearners() {
        School school = Schools.with(12, 6);
        for (int form = 0; form < 12; form++) {
            school.correct(form / 2, form, Schools.EXPLICIT);
        }
        school.pass(1);
        for (int form = 0; form < 12; form++) {
            Check.bits("strength", 0.125f * 0.875f, school.strength(form / 2, form));
        }
    }

    @Holds("nobody is HUSHED any more")
    static void p06_pass_nobodyIsHushedAnyMore() {
        School school = Schools.with(1, 6);
        for (int learner = 0; learner < 6; learner++) {
            Schools.upset(school, learner, learner + 2);
            Check.same("HUSHED", learner > 0, school.isHushed(learner));
        }
        school.pass(1);
        for (int learner = 0; learner < 6; learner++) {
            Check.same("HUSHED", false, school.isHushed(learner));
            Check.same("who talks", 0, school.talk(learner, 1) & ~1);
        }
    }

    @Holds({BAD_DAYS, "- `days`: 1 to 30"})
    static void p06_days_are1To30() {
        School school = Schools.with(1, 1);
        school.lesson(0, 0);
        Check.badBeyond(school, 1, 30, days -> school.pass(days));
        Check.bits("nothing is forgotten", 0.25f, school.strength(0, 0));
        Check.same("the least", 1, school.pass(1));
        Check.same("the most", 31, school.pass(30));
    }

    @Holds({ABOVE_999, "Days are counted from 0, at most 999."})
    static void p06_pass_theDay999IsReachedAndTheOneBehindItRefused() {
        School school = atTheDay990();
        Check.same("day", 998, school.pass(8));
        Check.badState(school, () -> school.pass(2), () -> school.pass(30));
        Check.same("day", 999, school.pass(1));
        Check.badState(school, () -> school.pass(1), () -> school.pass(2), () -> school.pass(30));
        Check.same("day", 999, school.day());
    }

    @Holds(ABOVE_999)
    static void p06_pass_overTheLastDayAtOnceIsRefused() {
        School school = atTheDay990();
        school.lesson(0, 0);
        float strength = Schools.strength(school, 0, 0);
        Check.badState(school, () -> school.pass(10), () -> school.pass(11), () -> school.pass(30));
        Check.bits("nothing is forgotten", strength, school.strength(0, 0));
        Check.same("day", 999, school.pass(9));
    }

    @Holds({ABOVE_999, "is HUSHED on that day"})
    static void p06_pass_refusedOnesLeaveTheHushedAndTheDaysLessons() {
        School school = atTheDay990();
        school.pass(9);
        Schools.upset(school, 0, 3);
        for (int time = 0; time < 3; time++) {
            school.lesson(0, 0);
        }
        Check.badState(school, () -> school.pass(1), () -> school.talk(0, 1), () -> school.lesson(0, 0));
        Check.same("HUSHED still", true, school.isHushed(0));
    }

    @Holds({FIRST_NAMED, BAD_DAYS, ABOVE_999})
    static void p06_order_badDaysComeAheadOfTheLastDay() {
        School school = atTheDay990();
        school.pass(9);
        Check.badBeyond(school, 1, 30, days -> school.pass(days));
    }

    private static School atTheDay990() {
        School school = Schools.with(1, 1);
        for (int month = 0; month < 33; month++) {
            Check.same("day", 30 * month + 30, school.pass(30));
        }
        return school;
    }
}
