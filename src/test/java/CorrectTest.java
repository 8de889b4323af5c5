/** Promise 8. */
final class CorrectTest {
    private static final String NO_LEARNER_OR_FORM =
            "Throws `IndexOutOfBoundsException` if there is no such LEARNER or FORM";
    private static final String BAD_WAY = "Throws `IllegalArgumentException` if way is out of range";
    private static final String FIRST_NAMED = "the one that is named first in the throws clause is thrown";
    private static final String A_RECAST = "a RECAST 0 GROWS its strength by 0.0625f, if that is at least 0.25f";
    private static final String A_PROMPT = "a PROMPT 1 by 0.125f, if it is KNOWN";
    private static final String AN_EXPLICIT = "being EXPLICIT 2 by 0.125f in any case, and the LEARNER is upset once more";
    private static final String READY_OR_NOT = "A FORM, READY or not, can be corrected";
    private static final String MENDS = "The second EXPLICIT correction of a FOSSIL, since it became one, makes it none";

    private CorrectTest() {
    }

    @Holds({"Corrects a LEARNER.", "Returns the strength then.", A_RECAST})
    static void p08_recast_atAQuarterGrowsAndJustBelowDoesNot() {
        School below = Schools.justBelowQuarter();
        Check.bits("just below", Schools.BELOW_QUARTER, below.correct(0, 0, Schools.RECAST));
        School at = Schools.atQuarter();
        Check.bits("at 0.25f", Schools.grown(0.25f, 0.0625f), at.correct(0, 0, Schools.RECAST));
        Check.bits("strength", Schools.grown(0.25f, 0.0625f), at.strength(0, 0));
    }

    @Holds(A_RECAST)
    static void p08_recast_ofNothingAndOfWhatIsKnown() {
        School nothing = Schools.with(1, 1);
        Check.bits("at 0f", 0f, nothing.correct(0, 0, Schools.RECAST));
        School known = Schools.atThreeQuarters(1);
        Check.bits("at 0.75f", Schools.grown(0.75f, 0.0625f), known.correct(0, 0, Schools.RECAST));
    }

    @Holds(A_PROMPT)
    static void p08_prompt_atHalfGrowsAndJustBelowDoesNot() {
        School below = Schools.justBelowHalf(1);
        Check.bits("just below", Schools.BELOW_HALF, below.correct(0, 0, Schools.PROMPT));
        School at = Schools.atHalf(1);
        Check.bits("at 0.5f", Schools.grown(0.5f, 0.125f), at.correct(0, 0, Schools.PROMPT));
        Check.bits("strength", Schools.grown(0.5f, 0.125f), at.strength(0, 0));
    }

    @Holds(AN_EXPLICIT)
    static void p08_explicit_growsInAnyCase() {
        School school = Schools.with(1, 1);
        float strength = 0f;
        for (int time = 0; time < 20; time++) {
            strength = Schools.grown(strength, 0.125f);
            Check.bits("correct", strength, school.correct(0, 0, Schools.EXPLICIT));
        }
        Check.same("taught", 0, school.forms(0, Schools.TAUGHT));
    }

    @Holds(AN_EXPLICIT)
    static void p08_explicit_theThirdHushes() {
        School school = Schools.with(2, 2);
        school.correct(0, 0, Schools.EXPLICIT);
        school.correct(1, 0, Schools.EXPLICIT);
        school.correct(0, 1, Schools.EXPLICIT);
        Check.same("upset twice", false, school.isHushed(0));
        school.correct(0, 0, Schools.EXPLICIT);
        Check.same("upset three times", true, school.isHushed(0));
        Check.same("another LEARNER", false, school.isHushed(1));
    }

    @Holds({A_RECAST, A_PROMPT})
    static void p08_recastAndPrompt_upsetNobody() {
        School school = Schools.atHalf(1);
        for (int time = 0; time < 5; time++) {
            school.correct(0, 0, Schools.RECAST);
            school.correct(0, 0, Schools.PROMPT);
        }
        Check.same("HUSHED", false, school.isHushed(0));
        Schools.upset(school, 0, 2);
        Check.same("upset twice", false, school.isHushed(0));
    }

    @Holds(READY_OR_NOT)
    static void p08_correct_ofAFormThatIsNotReady() {
        School school = Schools.with(1, 1);
        school.form(1);
        float strength = 0f;
        for (int time = 0; time < 6; time++) {
            strength = Schools.grown(strength, 0.125f);
            Check.bits("EXPLICIT", strength, school.correct(0, 1, Schools.EXPLICIT));
        }
        strength = Schools.grown(strength, 0.0625f);
        Check.bits("RECAST", strength, school.correct(0, 1, Schools.RECAST));
        strength = Schools.grown(strength, 0.125f);
        Check.bits("PROMPT", strength, school.correct(0, 1, Schools.PROMPT));
        Check.same("READY", 1, school.forms(0, Schools.READY));
    }

    @Holds("also of one who is HUSHED, in three WAYS")
    static void p08_correct_ofOneWhoIsHushed() {
        School school = Schools.with(2, 1);
        Schools.makeKnown(school, 0, 1);
        Schools.upset(school, 0, 3);
        float strength = Schools.grown(0.5f, 0.0625f);
        Check.bits("RECAST", strength, school.correct(0, 1, Schools.RECAST));
        strength = Schools.grown(strength, 0.125f);
        Check.bits("PROMPT", strength, school.correct(0, 1, Schools.PROMPT));
        strength = Schools.grown(strength, 0.125f);
        Check.bits("EXPLICIT", strength, school.correct(0, 1, Schools.EXPLICIT));
        Check.same("HUSHED still", true, school.isHushed(0));
    }

    @Holds(MENDS)
    static void p08_explicit_theSecondOfAFossilMakesItNone() {
        School school = Schools.with(2, 1);
        Schools.makeFossil(school, 0, 0);
        Check.same("FOSSIL", 1, school.forms(0, Schools.FOSSILS));
        school.correct(0, 0, Schools.EXPLICIT);
        Check.same("after one", 1, school.forms(0, Schools.FOSSILS));
        school.correct(0, 0, Schools.EXPLICIT);
        Check.same("after two", 0, school.forms(0, Schools.FOSSILS));
    }

    @Holds("since it became one, makes it none")
    static void p08_explicit_thoseAheadOfTheFossilAreNotCounted() {
        School school = Schools.with(1, 1);
        school.talk(0, 1);
        school.correct(0, 0, Schools.EXPLICIT);
        school.correct(0, 0, Schools.EXPLICIT);
        school.talk(0, 1);
        school.talk(0, 1);
        Check.same("FOSSIL", 1, school.forms(0, Schools.FOSSILS));
        school.correct(0, 0, Schools.EXPLICIT);
        Check.same("after one since", 1, school.forms(0, Schools.FOSSILS));
        school.correct(0, 0, Schools.EXPLICIT);
        Check.same("after two since", 0, school.forms(0, Schools.FOSSILS));
    }

    @Holds("The second EXPLICIT correction of a FOSSIL")
    static void p08_explicit_otherWaysFormsAndLearnersAreNotCounted() {
        School school = Schools.with(2, 2);
        Schools.makeFossil(school, 0, 0);
        Schools.makeFossil(school, 0, 1);
        Schools.makeFossil(school, 1, 0);
        school.correct(0, 0, Schools.EXPLICIT);
        school.correct(0, 0, Schools.RECAST);
        school.correct(0, 0, Schools.PROMPT);
        school.correct(0, 1, Schools.EXPLICIT);
        school.correct(1, 0, Schools.EXPLICIT);
        Check.same("of the first", 3, school.forms(0, Schools.FOSSILS));
        Check.same("of the second", 1, school.forms(1, Schools.FOSSILS));
        school.correct(0, 1, Schools.EXPLICIT);
        Check.same("of the first", 1, school.forms(0, Schools.FOSSILS));
        Check.same("of the second", 1, school.forms(1, Schools.FOSSILS));
    }

    @Holds(MENDS)
    static void p08_explicit_theTwoMayBeDaysApartAndTheFossilKnown() {
        School school = Schools.with(1, 1);
        Schools.makeFossil(school, 0, 0);
        school.correct(0, 0, Schools.EXPLICIT);
        school.pass(1);
        school.transfer(0, 0, 1);
        for (int time = 0; time < 3; time++) {
            school.lesson(0, 0);
        }
        Check.same("KNOWN", 1, school.forms(0, Schools.KNOWN));
        Check.same("FOSSIL still", 1, school.forms(0, Schools.FOSSILS));
        school.correct(0, 0, Schools.EXPLICIT);
        Check.same("none", 0, school.forms(0, Schools.FOSSILS));
    }

    @Holds({MENDS, "once it is none it is counted anew, from 0"})
    static void p08_explicit_errorsBehindTheSecondAreCountedFrom0() {
        School school = Schools.with(1, 1);
        Schools.makeFossil(school, 0, 0);
        school.talk(0, 1);
        school.talk(0, 1);
        school.correct(0, 0, Schools.EXPLICIT);
        school.correct(0, 0, Schools.EXPLICIT);
        school.talk(0, 1);
        school.talk(0, 1);
        Check.same("after two errors", 0, school.forms(0, Schools.FOSSILS));
        school.talk(0, 1);
        Check.same("after three errors", 1, school.forms(0, Schools.FOSSILS));
    }

    @Holds("since it became one")
    static void p08_explicit_areCountedAnewForTheNextFossil() {
        School school = Schools.with(1, 1);
        for (int round = 0; round < 3; round++) {
            Schools.makeFossil(school, 0, 0);
            school.correct(0, 0, Schools.EXPLICIT);
            Check.same("after one since", 1, school.forms(0, Schools.FOSSILS));
            school.correct(0, 0, Schools.EXPLICIT);
            Check.same("after two since", 0, school.forms(0, Schools.FOSSILS));
            school.pass(20);
        }
    }

    @Holds("makes it none, behind all else")
    static void p08_explicit_theSecondGrowsAndUpsetsAllTheSame() {
        School school = Schools.with(1, 1);
        Schools.makeFossil(school, 0, 0);
        school.correct(0, 0, Schools.EXPLICIT);
        float strength = Schools.grown(0.125f, 0.125f);
        Check.bits("correct", strength, school.correct(0, 0, Schools.EXPLICIT));
        school.correct(0, 0, Schools.RECAST);
        Check.same("upset twice", false, school.isHushed(0));
        Check.bits("a whole lesson then", Schools.grown(strength, 0.25f), school.lesson(0, 0));
        Schools.upset(school, 0, 1);
        Check.same("upset three times", true, school.isHushed(0));
    }

    @Holds({"- `way`: RECAST to EXPLICIT", BAD_WAY})
    static void p08_way_isRecastToExplicit() {
        School school = Schools.atHalf(1);
        Check.badBeyond(school, Schools.RECAST, Schools.EXPLICIT, way -> school.correct(0, 0, way));
        Check.bits("strength", 0.5f, school.strength(0, 0));
        Check.bits("the first", Schools.grown(0.5f, 0.0625f), school.correct(0, 0, 0));
        Check.bits("the last", Schools.grown(Schools.grown(0.5f, 0.0625f), 0.125f), school.correct(0, 0, 2));
    }

    @Holds(NO_LEARNER_OR_FORM)
    static void p08_correct_ofNoSuchLearnerIsRefused() {
        for (int learners = 0; learners <= 6; learners += 3) {
            School school = Schools.with(1, learners);
            Check.noSuchBeyond(school, learners, learner -> school.correct(learner, 0, Schools.EXPLICIT));
        }
    }

    @Holds(NO_LEARNER_OR_FORM)
    static void p08_correct_ofNoSuchFormIsRefused() {
        for (int forms = 0; forms <= 12; forms += 4) {
            School school = Schools.with(forms, 1);
            Check.noSuchBeyond(school, forms, form -> school.correct(0, form, Schools.EXPLICIT));
        }
    }

    @Holds({FIRST_NAMED, NO_LEARNER_OR_FORM, BAD_WAY})
    static void p08_order_noSuchLearnerOrFormComesAheadOfBadWay() {
        School school = Schools.with(1, 1);
        Check.noSuch(school, () -> school.correct(1, 0, 3), () -> school.correct(-1, 0, -1),
                () -> school.correct(0, 1, 3), () -> school.correct(0, -1, Integer.MAX_VALUE));
    }

    @Holds("A call that throws an exception changes nothing.")
    static void p08_correct_refusedOnesUpsetNobodyAndAreNotCounted() {
        School school = Schools.with(1, 1);
        Schools.makeFossil(school, 0, 0);
        for (int left = 1; left >= 0; left--) {
            Check.badArgument(school, () -> school.correct(0, 0, 3), () -> school.correct(0, 0, -1));
            Check.noSuch(school, () -> school.correct(0, 1, Schools.EXPLICIT));
            school.correct(0, 0, Schools.EXPLICIT);
            Check.same("FOSSIL", left, school.forms(0, Schools.FOSSILS));
        }
        Check.badArgument(school, () -> school.correct(0, 0, 3));
        Check.same("HUSHED", false, school.isHushed(0));
    }
}
