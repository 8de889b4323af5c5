/** Promises 9 to 11. */
final class AbroadNotesTest {
    private static final String NO_LEARNER = "Throws `IndexOutOfBoundsException` if there is no such LEARNER";
    private static final String BAD_FRIENDS = "Throws `IllegalArgumentException` if friends is out of range";
    private static final String NO_NOTE = "Throws `IllegalStateException` if there is none";
    private static final String FIRST_NAMED = "the one that is named first in the throws clause is thrown";
    private static final String AS_THEY_GO = "the strength of each FORM that is READY as they go GROWS";
    private static final String FRIENDS = "by 0.015625f times how many these are";
    private static final String LEVEL_THEN = "Returns the LEVEL then.";
    private static final String NOTE = "A note can be kept of all strengths of a LEARNER, one at a time";
    private static final String SINCE_THEN = "FORMS that came since have 0f then";
    private static final String NOTHING_ELSE = "nothing else changes";
    private static final String KEEPS = "Keeps a note of a LEARNER, in place of one that there is.";
    private static final String TAKES_BACK = "Takes a LEARNER back to the note, which stays.";

    private AbroadNotesTest() {
    }

    // ---- 9: abroad

    @Holds({"Sends a LEARNER abroad.", AS_THEY_GO})
    static void p09_abroad_growsWhatIsReadyAndNothingElse() {
        School school = Schools.with(1, 2);
        school.form(1);
        school.form(0);
        Check.same("level", 0, school.abroad(0, 9));
        Check.bits("READY", 0.140625f, school.strength(0, 0));
        Check.bits("not READY", 0f, school.strength(0, 1));
        Check.bits("READY", 0.140625f, school.strength(0, 2));
        Check.bits("another LEARNER", 0f, school.strength(1, 0));
    }

    @Holds({FRIENDS, "A LEARNER goes abroad with some friends, 0 to 9", "- `friends`: 0 to 9"})
    static void p09_friends_0To9GrowSoManyTimes() {
        for (int friends = 0; friends <= 9; friends++) {
            School school = Schools.atQuarter();
            school.abroad(0, friends);
            Check.bits("friends " + friends, Schools.grown(0.25f, 0.015625f * friends), school.strength(0, 0));
        }
    }

    @Holds({BAD_FRIENDS, "- `friends`: 0 to 9"})
    static void p09_friends_others_areRefused() {
        School school = Schools.atQuarter();
        Check.badBeyond(school, 0, 9, friends -> school.abroad(0, friends));
        Check.bits("strength", 0.25f, school.strength(0, 0));
    }

    @Holds(AS_THEY_GO)
    static void p09_abroad_whatBecomesReadyOnTheWayDoesNotGrow() {
        School school = Schools.justBelowHalf(2);
        Check.same("level", 1, school.abroad(0, 1));
        Check.bits("READY as they went", Schools.grown(Schools.BELOW_HALF, 0.015625f), school.strength(0, 0));
        Check.bits("READY then", 0f, school.strength(0, 1));
        school.abroad(0, 1);
        Check.bits("next time", 0.015625f, school.strength(0, 1));
    }

    @Holds(AS_THEY_GO)
    static void p09_abroad_atHalfIsEnoughForWhatNeedsIt() {
        School school = Schools.atHalf(2);
        school.abroad(0, 1);
        Check.bits("READY", 0.015625f, school.strength(0, 1));
    }

    @Holds(LEVEL_THEN)
    static void p09_abroad_returnsTheLevelBehindIt() {
        School school = Schools.justBelowHalf(1);
        Check.same("with none", 0, school.abroad(0, 0));
        Check.same("with one", 1, school.abroad(0, 1));
    }

    @Holds("they come back on that day")
    static void p09_abroad_takesNoDay() {
        School school = Schools.with(1, 1);
        school.lesson(0, 0);
        school.lesson(0, 0);
        Schools.upset(school, 0, 3);
        school.pass(4);
        school.lesson(0, 0);
        Schools.upset(school, 0, 3);
        school.abroad(0, 9);
        Check.same("day", 4, school.day());
        Check.same("HUSHED still", true, school.isHushed(0));
        school.lesson(0, 0);
        school.lesson(0, 0);
        Check.badState(school, () -> school.lesson(0, 0));
    }

    @Holds("Sends a LEARNER abroad.")
    static void p09_abroad_isNoLessonAndWholeForFossils() {
        School school = Schools.with(1, 1);
        Schools.makeFossil(school, 0, 0);
        school.abroad(0, 8);
        Check.bits("strength", 0.125f, school.strength(0, 0));
        Check.same("taught", 0, school.forms(0, Schools.TAUGHT));
        Check.same("FOSSIL still", 1, school.forms(0, Schools.FOSSILS));
    }

    @Holds(NO_LEARNER)
    static void p09_abroad_ofNoSuchLearnerIsRefused() {
        for (int learners = 0; learners <= 6; learners += 3) {
            School school = Schools.with(1, learners);
            Check.noSuchBeyond(school, learners, learner -> school.abroad(learner, 9));
        }
    }

    @Holds({FIRST_NAMED, NO_LEARNER, BAD_FRIENDS})
    static void p09_order_noSuchLearnerComesAheadOfBadFriends() {
        School school = Schools.with(1, 1);
        Check.noSuch(school, () -> school.abroad(1, 10), () -> school.abroad(-1, -1));
    }

    // ---- 10: keep

    @Holds({"Returns whether there was one.", NOTE})
    static void p10_keep_tellsWhetherThereWasOne() {
        School school = Schools.with(1, 2);
        Check.same("the first", false, school.keep(0));
        Check.same("the second", true, school.keep(0));
        Check.same("another LEARNER", false, school.keep(1));
        school.back(0);
        Check.same("the note stays", true, school.keep(0));
        school.pass(30);
        Check.same("over days too", true, school.keep(0));
    }

    @Holds({KEEPS, NOTE})
    static void p10_keep_inPlaceOfTheOneThatThereIs() {
        School school = Schools.with(1, 1);
        school.lesson(0, 0);
        school.keep(0);
        float strength = Float.intBitsToFloat(school.lesson(0, 0));
        school.keep(0);
        school.lesson(0, 0);
        school.back(0);
        Check.bits("the newer", strength, school.strength(0, 0));
        school.back(0);
        Check.bits("the newer", strength, school.strength(0, 0));
    }

    @Holds(NOTE)
    static void p10_keep_ofAllTwelveStrengths() {
        School school = Schools.with(12, 1);
        float[] kept = new float[12];
        for (int form = 0; form < 12; form++) {
            for (int time = 0; time <= form; time++) {
                kept[form] = Float.intBitsToFloat(school.correct(0, form, Schools.EXPLICIT));
            }
        }
        school.keep(0);
        school.pass(30);
        Check.same("level", 7, school.back(0));
        for (int form = 0; form < 12; form++) {
            Check.bits("strength", kept[form], school.strength(0, form));
        }
    }

    @Holds(NOTE)
    static void p10_keep_isOfThatLearnerAlone() {
        School school = Schools.with(1, 2);
        school.lesson(0, 0);
        school.keep(0);
        school.keep(1);
        school.lesson(0, 0);
        school.lesson(1, 0);
        school.back(1);
        Check.bits("the second", 0f, school.strength(1, 0));
        Check.bits("the first", 0.4375f, school.strength(0, 0));
        school.back(0);
        Check.bits("the first", 0.25f, school.strength(0, 0));
    }

    @Holds(NO_LEARNER)
    static void p10_keep_ofNoSuchLearnerIsRefused() {
        for (int learners = 0; learners <= 6; learners += 3) {
            School school = Schools.with(1, learners);
            Check.noSuchBeyond(school, learners, learner -> school.keep(learner));
        }
    }

    // ---- 11: back

    @Holds({TAKES_BACK, LEVEL_THEN})
    static void p11_back_returnsTheLevelOfTheNote() {
        School up = Schools.atHalf(1);
        up.keep(0);
        up.pass(1);
        Check.same("level", 0, up.level(0));
        Check.same("back up", 1, up.back(0));
        School down = Schools.with(1, 1);
        down.keep(0);
        Schools.makeKnown(down, 0, 0);
        Check.same("back down", 0, down.back(0));
    }

    @Holds(TAKES_BACK)
    static void p11_back_theNoteStaysAsItWas() {
        School school = Schools.with(1, 1);
        school.lesson(0, 0);
        school.keep(0);
        school.pass(3);
        school.back(0);
        Check.bits("once", 0.25f, school.strength(0, 0));
        school.lesson(0, 0);
        school.back(0);
        Check.bits("twice", 0.25f, school.strength(0, 0));
        Check.same("day", 3, school.day());
    }

    @Holds(SINCE_THEN)
    static void p11_back_formsThatCameSinceHaveNothingThen() {
        School school = Schools.with(1, 1);
        school.lesson(0, 0);
        school.keep(0);
        school.form(0);
        Schools.makeKnown(school, 0, 1);
        Check.same("level", 0, school.back(0));
        Check.bits("the later FORM", 0f, school.strength(0, 1));
        Check.bits("the older FORM", 0.25f, school.strength(0, 0));
    }

    @Holds({SINCE_THEN, NOTE})
    static void p11_back_toANoteWithoutAnyForm() {
        School school = Schools.with(0, 1);
        Check.same("without FORMS", false, school.keep(0));
        Check.same("without FORMS", 0, school.back(0));
        for (int form = 0; form < 12; form++) {
            school.form(0);
            school.correct(0, form, Schools.EXPLICIT);
        }
        school.back(0);
        for (int form = 0; form < 12; form++) {
            Check.bits("strength", 0f, school.strength(0, form));
        }
        school.correct(0, 11, Schools.EXPLICIT);
        Check.same("a newer note", true, school.keep(0));
        school.pass(1);
        school.back(0);
        Check.bits("strength", 0.125f, school.strength(0, 11));
    }

    @Holds(NOTHING_ELSE)
    static void p11_back_changesNoLessonsErrorsOrUpsets() {
        School school = Schools.with(2, 1);
        school.keep(0);
        school.lesson(0, 1);
        school.lesson(0, 1);
        Schools.makeFossil(school, 0, 1);
        school.talk(0, 1);
        school.talk(0, 1);
        school.correct(0, 1, Schools.EXPLICIT);
        school.back(0);
        Check.same("taught", 2, school.forms(0, Schools.TAUGHT));
        Check.same("FOSSILS", 2, school.forms(0, Schools.FOSSILS));
        school.talk(0, 1);
        Check.same("the third error", 3, school.forms(0, Schools.FOSSILS));
        school.correct(0, 1, Schools.EXPLICIT);
        Check.same("corrected twice since it became one", 1, school.forms(0, Schools.FOSSILS));
        school.lesson(0, 0);
        Check.badState(school, () -> school.lesson(0, 0));
        school.correct(0, 1, Schools.EXPLICIT);
        Check.same("upset three times", true, school.isHushed(0));
    }

    @Holds(NOTHING_ELSE)
    static void p11_back_changesNoTextsReadAndNoPlacement() {
        School school = Schools.with(1, 1);
        school.text(1);
        school.item(8);
        school.item(-8);
        school.keep(0);
        school.read(0, 0);
        school.answer(0, true);
        school.back(0);
        Check.badState(school, () -> school.read(0, 0));
        Check.bits("ability", 1f, school.ability(0));
        Check.same("the other ITEM", 1, school.answer(0, true));
        Check.bits("by the next step", 1.75f, school.ability(0));
    }

    @Holds(NO_NOTE)
    static void p11_back_withoutANoteIsRefused() {
        School school = Schools.with(1, 3);
        school.lesson(0, 0);
        Check.badState(school, () -> school.back(0));
        school.keep(1);
        Check.badState(school, () -> school.back(0), () -> school.back(2));
        Check.bits("strength", 0.25f, school.strength(0, 0));
        Check.same("still none", false, school.keep(0));
    }

    @Holds({NO_LEARNER, FIRST_NAMED})
    static void p11_back_ofNoSuchLearnerIsRefused() {
        for (int learners = 0; learners <= 6; learners += 3) {
            School school = Schools.with(1, learners);
            Check.noSuchBeyond(school, learners, learner -> school.back(learner));
        }
    }
}
