/** Promises 7, 22 and 23. */
final class TalkTest {
    private static final String NO_LEARNER = "Throws `IndexOutOfBoundsException` if there is no such LEARNER";
    private static final String NO_LEARNER_OR_FORM = NO_LEARNER + " or FORM";
    private static final String BAD_FORMS = "Throws `IllegalArgumentException` if forms is out of range, or empty";
    private static final String HUSHED = "Throws `IllegalStateException` if the LEARNER is HUSHED";
    private static final String FIRST_NAMED = "the one that is named first in the throws clause is thrown";
    private static final String OTHERS = "a set with others than are there is out of range";
    private static final String RIGHT =
            "one that is KNOWN, whatever else it is, is right, and its strength GROWS by 0.03125f";
    private static final String THIRD_ERROR = "One that was wrong three times becomes a FOSSIL of the LEARNER";
    private static final String NOT_COUNTED = "as long as it is one it is not counted";
    private static final String ANEW = "once it is none it is counted anew, from 0";
    private static final String UPSETS =
            "who is upset 3 times on a day, counted from 0 on each day, or more, is HUSHED on that day";
    private static final String CAUSES = "The cause of an error at a FORM that is not KNOWN is the first of these: "
            + "1 it is not READY, 2 it is a FOSSIL, 3 the TONGUE HINDERS it, 4 no lesson of it was given to the LEARNER, "
            + "5 it is forgotten.";
    private static final String CAUSE = "Returns the cause of an error.";

    private TalkTest() {
    }

    // ---- 7: talk

    @Holds({"Lets a LEARNER talk.", "Returns those that were wrong, as bits.", RIGHT, "another one is wrong, and counted"})
    static void p07_talk_isRightWhereFormsAreKnown() {
        School school = Schools.with(3, 1);
        Schools.makeKnown(school, 0, 1);
        Check.same("wrong", 5, school.talk(0, 7));
        Check.bits("right one grows", Schools.grown(0.5f, 0.03125f), school.strength(0, 1));
        Check.bits("wrong one stays", 0f, school.strength(0, 0));
        Check.same("none wrong", 0, school.talk(0, 2));
        Check.same("one wrong", 1, school.talk(0, 3));
        Check.bits("grown three times", Schools.grown(Schools.grown(Schools.grown(0.5f, 0.03125f), 0.03125f), 0.03125f),
                school.strength(0, 1));
    }

    @Holds("A FORM is KNOWN to a LEARNER, if the strength is at least 0.5f")
    static void p07_talk_atHalfIsRightAndJustBelowIsWrong() {
        School below = Schools.justBelowHalf(1);
        Check.same("just below", 1, below.talk(0, 1));
        Check.bits("strength", Schools.BELOW_HALF, below.strength(0, 0));
        School at = Schools.atHalf(1);
        Check.same("at", 0, at.talk(0, 1));
        Check.bits("strength", Schools.grown(0.5f, 0.03125f), at.strength(0, 0));
    }

    @Holds("talks with a set of FORMS, READY or not")
    static void p07_talk_ofFormsThatAreNotReady() {
        School school = Schools.with(1, 1);
        school.form(1);
        school.form(1);
        Schools.makeKnownUntaught(school, 0, 1);
        school.pass(1);
        Check.same("READY", 1, school.forms(0, Schools.READY));
        Check.same("KNOWN", 2, school.forms(0, Schools.KNOWN));
        Check.same("wrong", 5, school.talk(0, 7));
    }

    @Holds("- `forms`: the set, at least one")
    static void p07_forms_mayBeOneOrAllTwelve() {
        School school = Schools.with(12, 1);
        for (int form = 0; form < 12; form++) {
            Check.same("one", 1 << form, school.talk(0, 1 << form));
        }
        Schools.makeKnown(school, 0, 11);
        Check.same("all", 2047, school.talk(0, 4095));
        Check.bits("the last", Schools.grown(0.5f, 0.03125f), school.strength(0, 11));
    }

    @Holds({BAD_FORMS, "- `forms`: the set, at least one"})
    static void p07_forms_emptyIsRefused() {
        School school = Schools.with(2, 1);
        Check.badArgument(school, () -> school.talk(0, 0));
        School without = Schools.with(0, 1);
        Check.badArgument(without, () -> without.talk(0, 0));
    }

    @Holds({BAD_FORMS, OTHERS})
    static void p07_forms_withOthersThanAreThereAreRefused() {
        for (int forms = 0; forms <= 12; forms += 4) {
            School school = Schools.with(forms, 1);
            Check.badSets(school, forms, set -> school.talk(0, set));
        }
    }

    @Holds(NO_LEARNER)
    static void p07_talk_ofNoSuchLearnerIsRefused() {
        for (int learners = 0; learners <= 6; learners += 3) {
            School school = Schools.with(2, learners);
            Check.noSuchBeyond(school, learners, learner -> school.talk(learner, 3));
        }
    }

    @Holds(HUSHED)
    static void p07_talk_ofTheHushedIsRefused() {
        School school = Schools.with(2, 2);
        Schools.upset(school, 0, 2);
        Check.same("upset twice", 3, school.talk(0, 3));
        Schools.upset(school, 0, 1);
        Check.badState(school, () -> school.talk(0, 3), () -> school.talk(0, 2));
        Schools.upset(school, 0, 1);
        Check.badState(school, () -> school.talk(0, 3));
        Check.same("another LEARNER", 3, school.talk(1, 3));
    }

    @Holds({FIRST_NAMED, NO_LEARNER, BAD_FORMS})
    static void p07_order_noSuchLearnerComesAheadOfBadForms() {
        School school = Schools.with(2, 1);
        Check.noSuch(school, () -> school.talk(1, 0), () -> school.talk(-1, 4), () -> school.talk(6, -1));
    }

    @Holds({FIRST_NAMED, BAD_FORMS, HUSHED})
    static void p07_order_badFormsComeAheadOfBeingHushed() {
        School school = Schools.with(2, 1);
        Schools.upset(school, 0, 3);
        Check.badArgument(school, () -> school.talk(0, 0), () -> school.talk(0, 4), () -> school.talk(0, 1 << 31));
        Check.noSuch(school, () -> school.talk(1, 1), () -> school.talk(1, 0));
    }

    @Holds(THIRD_ERROR)
    static void p07_errors_theThirdMakesAFossil() {
        School school = Schools.with(2, 1);
        school.talk(0, 1);
        Check.same("FOSSILS after one", 0, school.forms(0, Schools.FOSSILS));
        school.talk(0, 1);
        Check.same("FOSSILS after two", 0, school.forms(0, Schools.FOSSILS));
        Check.same("the third is wrong", 1, school.talk(0, 1));
        Check.same("FOSSILS after three", 1, school.forms(0, Schools.FOSSILS));
    }

    @Holds(THIRD_ERROR)
    static void p07_errors_areCountedOverDaysAndWhatWasRight() {
        School school = Schools.with(1, 1);
        school.talk(0, 1);
        school.pass(1);
        school.talk(0, 1);
        Schools.makeKnown(school, 0, 0);
        Check.same("right", 0, school.talk(0, 1));
        school.pass(30);
        Check.same("FOSSILS", 0, school.forms(0, Schools.FOSSILS));
        Check.same("wrong", 1, school.talk(0, 1));
        Check.same("FOSSILS", 1, school.forms(0, Schools.FOSSILS));
    }

    @Holds(THIRD_ERROR)
    static void p07_errors_areCountedForEachLearnerAndForm() {
        School school = Schools.with(2, 2);
        school.talk(0, 3);
        school.talk(1, 2);
        school.talk(0, 1);
        school.talk(1, 2);
        school.talk(0, 1);
        Check.same("of the first", 1, school.forms(0, Schools.FOSSILS));
        Check.same("of the second", 0, school.forms(1, Schools.FOSSILS));
        school.talk(1, 3);
        Check.same("of the second", 2, school.forms(1, Schools.FOSSILS));
        Check.same("of the first", 1, school.forms(0, Schools.FOSSILS));
    }

    @Holds(NOT_COUNTED)
    static void p07_errors_ofAFossilAreWrongButNotCounted() {
        School school = Schools.with(1, 1);
        Schools.makeFossil(school, 0, 0);
        for (int time = 0; time < 5; time++) {
            Check.same("wrong", 1, school.talk(0, 1));
        }
        school.correct(0, 0, Schools.EXPLICIT);
        Check.same("wrong", 1, school.talk(0, 1));
        school.correct(0, 0, Schools.EXPLICIT);
        school.talk(0, 1);
        school.talk(0, 1);
        Check.same("none after two errors", 0, school.forms(0, Schools.FOSSILS));
    }

    @Holds(ANEW)
    static void p07_errors_areCountedAnewOnceItIsNone() {
        School school = Schools.with(1, 1);
        for (int round = 0; round < 3; round++) {
            school.talk(0, 1);
            school.talk(0, 1);
            Check.same("after two errors", 0, school.forms(0, Schools.FOSSILS));
            school.talk(0, 1);
            Check.same("after three errors", 1, school.forms(0, Schools.FOSSILS));
            school.correct(0, 0, Schools.EXPLICIT);
            school.correct(0, 0, Schools.EXPLICIT);
            school.pass(20);
        }
    }

    @Holds(RIGHT)
    static void p07_talk_ofAFossilThatIsKnownIsRight() {
        School school = Schools.withTongues(1);
        Schools.makeFossil(school, Schools.HELPED, 0);
        float strength = 0f;
        for (int time = 0; time < 3; time++) {
            strength = Schools.grown(strength, 0.25f);
            school.lesson(Schools.HELPED, 0);
        }
        Check.same("wrong", 0, school.talk(Schools.HELPED, 1));
        Check.bits("strength", Schools.grown(strength, 0.03125f), school.strength(Schools.HELPED, 0));
        Check.same("FOSSIL still", 1, school.forms(Schools.HELPED, Schools.FOSSILS));
    }

    @Holds("A call that throws an exception changes nothing.")
    static void p07_talk_refusedIsNotCounted() {
        School school = Schools.with(2, 1);
        school.talk(0, 1);
        school.talk(0, 1);
        Check.badArgument(school, () -> school.talk(0, 5), () -> school.talk(0, 1 << 31 | 1));
        for (int time = 0; time < 3; time++) {
            school.correct(0, 1, Schools.EXPLICIT);
        }
        Check.badState(school, () -> school.talk(0, 1));
        school.pass(1);
        Check.same("FOSSILS", 0, school.forms(0, Schools.FOSSILS));
        school.talk(0, 1);
        Check.same("FOSSILS", 1, school.forms(0, Schools.FOSSILS));
    }

    // ---- 22: isHushed

    @Holds({"Returns whether a LEARNER is HUSHED.", UPSETS})
    static void p22_isHushed_fromTheThirdUpsetOn() {
        School school = Schools.with(2, 2);
        Check.same("never upset", false, school.isHushed(0));
        school.correct(0, 0, Schools.EXPLICIT);
        Check.same("upset once", false, school.isHushed(0));
        school.correct(0, 1, Schools.EXPLICIT);
        Check.same("upset twice", false, school.isHushed(0));
        school.correct(0, 0, Schools.EXPLICIT);
        Check.same("upset three times", true, school.isHushed(0));
        school.correct(0, 0, Schools.EXPLICIT);
        Check.same("upset four times", true, school.isHushed(0));
        Check.same("another LEARNER", false, school.isHushed(1));
    }

    @Holds({UPSETS, "nobody is HUSHED any more"})
    static void p22_isHushed_noMoreOnTheDayBehindIt() {
        School school = Schools.with(1, 1);
        Schools.upset(school, 0, 5);
        school.pass(1);
        Check.same("on the next day", false, school.isHushed(0));
        Check.same("who talks again", 1, school.talk(0, 1));
    }

    @Holds("counted from 0 on each day")
    static void p22_isHushed_upsetsAreCountedFrom0OnEachDay() {
        School school = Schools.with(1, 1);
        Schools.upset(school, 0, 2);
        school.pass(1);
        Schools.upset(school, 0, 2);
        Check.same("upset twice on the new day", false, school.isHushed(0));
        Schools.upset(school, 0, 1);
        Check.same("upset three times on the new day", true, school.isHushed(0));
        school.pass(1);
        Schools.upset(school, 0, 2);
        Check.same("upset twice behind a hushed day", false, school.isHushed(0));
    }

    @Holds(UPSETS)
    static void p22_isHushed_throughAllThatIsNoDay() {
        School school = Schools.with(1, 1);
        school.keep(0);
        Schools.upset(school, 0, 3);
        school.back(0);
        school.lesson(0, 0);
        school.abroad(0, 9);
        school.correct(0, 0, Schools.RECAST);
        Check.same("HUSHED still", true, school.isHushed(0));
    }

    @Holds(NO_LEARNER)
    static void p22_isHushed_ofNoSuchLearnerIsRefused() {
        for (int learners = 0; learners <= 6; learners += 3) {
            School school = Schools.with(1, learners);
            Check.noSuchBeyond(school, learners, learner -> school.isHushed(learner));
        }
    }

    // ---- 23: cause

    @Holds({CAUSE, CAUSES, "Returns 0 to 5."})
    static void p23_cause_1ItIsNotReady() {
        School school = Schools.withTongues(1);
        school.form(1);
        school.transfer(Schools.HINDERED, 1, -1);
        Check.same("not READY alone", 1, school.cause(Schools.NEUTRAL, 1));
        Schools.makeFossil(school, Schools.HINDERED, 1);
        Check.same("a FOSSIL and HINDERED too", 1, school.cause(Schools.HINDERED, 1));
        school.lesson(Schools.HELPED, 0);
        school.lesson(Schools.HELPED, 1);
        school.pass(1);
        Check.same("taught, but READY no more", 1, school.cause(Schools.HELPED, 1));
    }

    @Holds(CAUSES)
    static void p23_cause_2ItIsAFossil() {
        School school = Schools.withTongues(1);
        for (int learner = 0; learner < 3; learner++) {
            Schools.makeFossil(school, learner, 0);
            Check.same("a FOSSIL", 2, school.cause(learner, 0));
        }
        school.lesson(Schools.NEUTRAL, 0);
        Check.same("a FOSSIL that was taught", 2, school.cause(Schools.NEUTRAL, 0));
        school.correct(Schools.HINDERED, 0, Schools.EXPLICIT);
        Check.same("corrected once", 2, school.cause(Schools.HINDERED, 0));
        school.correct(Schools.HINDERED, 0, Schools.EXPLICIT);
        Check.same("none any more", 3, school.cause(Schools.HINDERED, 0));
    }

    @Holds(CAUSES)
    static void p23_cause_3TheTongueHindersIt() {
        School school = Schools.withTongues(1);
        Check.same("HINDERED", 3, school.cause(Schools.HINDERED, 0));
        school.lesson(Schools.HINDERED, 0);
        Check.same("HINDERED and taught", 3, school.cause(Schools.HINDERED, 0));
        school.transfer(Schools.HINDERED, 0, 0);
        Check.same("no more", 5, school.cause(Schools.HINDERED, 0));
    }

    @Holds(CAUSES)
    static void p23_cause_4NoLessonWasGiven() {
        School school = Schools.withTongues(2);
        school.lesson(Schools.NEUTRAL, 1);
        Check.same("neither", 4, school.cause(Schools.NEUTRAL, 0));
        Check.same("HELPED", 4, school.cause(Schools.HELPED, 0));
        school.correct(Schools.HELPED, 0, Schools.EXPLICIT);
        school.abroad(Schools.HELPED, 9);
        Check.same("corrected and abroad", 4, school.cause(Schools.HELPED, 0));
    }

    @Holds(CAUSES)
    static void p23_cause_5ItIsForgotten() {
        School school = Schools.withTongues(1);
        school.lesson(Schools.NEUTRAL, 0);
        Check.same("not yet KNOWN", 5, school.cause(Schools.NEUTRAL, 0));
        school.lesson(Schools.HELPED, 0);
        school.pass(1);
        Check.same("KNOWN no more", 5, school.cause(Schools.HELPED, 0));
    }

    @Holds("If it is KNOWN, it is 0.")
    static void p23_cause_0ItIsKnownWhateverElseItIs() {
        School school = Schools.withTongues(1);
        school.form(1);
        school.transfer(Schools.HINDERED, 1, -1);
        Schools.makeFossil(school, Schools.HINDERED, 1);
        Schools.makeKnownUntaught(school, Schools.HINDERED, 1);
        school.pass(1);
        Check.same("READY", 1, school.forms(Schools.HINDERED, Schools.READY));
        Check.same("KNOWN", 0, school.cause(Schools.HINDERED, 1));
        school.lesson(Schools.HELPED, 0);
        Check.same("KNOWN", 0, school.cause(Schools.HELPED, 0));
    }

    @Holds({"If it is KNOWN, it is 0.", CAUSES})
    static void p23_cause_atHalfAndJustBelow() {
        School below = Schools.justBelowHalf(2);
        Check.same("just below", 5, below.cause(0, 0));
        Check.same("of what needs it", 1, below.cause(0, 1));
        School at = Schools.atHalf(2);
        Check.same("at", 0, at.cause(0, 0));
        Check.same("of what needs it", 4, at.cause(0, 1));
    }

    @Holds(NO_LEARNER_OR_FORM)
    static void p23_cause_ofNoSuchLearnerIsRefused() {
        for (int learners = 0; learners <= 6; learners += 3) {
            School school = Schools.with(1, learners);
            Check.noSuchBeyond(school, learners, learner -> school.cause(learner, 0));
        }
    }

    @Holds(NO_LEARNER_OR_FORM)
    static void p23_cause_ofNoSuchFormIsRefused() {
        for (int forms = 0; forms <= 12; forms += 4) {
            School school = Schools.with(forms, 1);
            Check.noSuchBeyond(school, forms, form -> school.cause(0, form));
        }
    }
}
