/** Promises 7, 8, 22 and 23. */
final class TalkTest {
    private TalkTest() {
    }

    static void p07_talkIsRightWhereFormsAreKnown() {
        TongueSchool school = Schools.with(3, 1);
        Schools.makeKnown(school, 0, 1);
        Check.same("wrong", 5, school.talk(0, 7));
        Check.bits("right one grows", Schools.grown(0.5f, 0.03125f), school.strength(0, 1));
        Check.bits("wrong one stays", 0f, school.strength(0, 0));
        Check.same("none wrong", 0, school.talk(0, 2));
        Check.same("one wrong", 1, school.talk(0, 3));
    }

    static void p07_talkAtAndJustBelowHalf() {
        TongueSchool below = Schools.atJustBelowHalf(1);
        Check.same("just below", 1, below.talk(0, 1));
        Check.bits("strength", Schools.BELOW_HALF, below.strength(0, 0));
        TongueSchool at = Schools.with(1, 1);
        Schools.makeKnown(at, 0, 0);
        Check.same("at", 0, at.talk(0, 1));
    }

    static void p07_aFormNeedNotBeReadyToBeRight() {
        TongueSchool school = Schools.with(1, 1);
        school.form(1);
        school.lesson(0, 0);
        for (int time = 0; time < 6; time++) {
            school.correct(0, 1, TongueSchool.EXPLICIT);
        }
        school.pass(1);
        Check.same("READY", 1, school.forms(0, 1));
        Check.same("KNOWN", 2, school.forms(0, 0));
        Check.same("wrong", 1, school.talk(0, 3));
    }

    static void p07_theThirdErrorMakesAFossil() {
        TongueSchool school = Schools.with(2, 2);
        Check.same("wrong", 3, school.talk(0, 3));
        school.talk(0, 1);
        Check.same("FOSSILS after two", 0, school.forms(0, 2));
        school.pass(1);
        Check.same("wrong", 1, school.talk(0, 1));
        Check.same("FOSSILS after three", 1, school.forms(0, 2));
        Check.same("of another LEARNER", 0, school.forms(1, 2));
        Check.same("a FOSSIL is wrong too", 3, school.talk(0, 3));
        Check.same("FOSSILS", 1, school.forms(0, 2));
        school.talk(0, 2);
        Check.same("FOSSILS", 3, school.forms(0, 2));
    }

    static void p07_aKnownFossilIsRight() {
        TongueSchool school = Schools.withTongues(1);
        Schools.makeFossil(school, Schools.HELPED, 0);
        float strength = 0f;
        for (int time = 0; time < 3; time++) {
            strength = Schools.grown(strength, 0.25f);
            school.lesson(Schools.HELPED, 0);
        }
        Check.same("FOSSIL still", 1, school.forms(Schools.HELPED, 2));
        Check.same("wrong", 0, school.talk(Schools.HELPED, 1));
        Check.bits("strength", Schools.grown(strength, 0.03125f), school.strength(Schools.HELPED, 0));
        Check.same("FOSSIL still", 1, school.forms(Schools.HELPED, 2));
    }

    static void p07_rightTalkDoesNotClearErrors() {
        TongueSchool school = Schools.with(1, 1);
        school.talk(0, 1);
        school.talk(0, 1);
        Schools.makeKnown(school, 0, 0);
        Check.same("right", 0, school.talk(0, 1));
        school.pass(30);
        Check.same("wrong", 1, school.talk(0, 1));
        Check.same("FOSSILS", 1, school.forms(0, 2));
    }

    static void p07_talkRefuses() {
        TongueSchool school = Schools.with(2, 1);
        Check.noSuch(school, () -> school.talk(1, 1));
        Check.noSuch(school, () -> school.talk(-1, 0));
        Check.noSuch(school, () -> school.talk(6, 4));
        Check.badArgument(school, () -> school.talk(0, 0));
        Check.badArgument(school, () -> school.talk(0, 4));
        Check.badArgument(school, () -> school.talk(0, 5));
        Check.badArgument(school, () -> school.talk(0, -1));
        Check.badArgument(school, () -> school.talk(0, Integer.MIN_VALUE));
        for (int time = 0; time < 3; time++) {
            school.correct(0, 0, TongueSchool.EXPLICIT);
        }
        Check.badState(school, () -> school.talk(0, 1));
        Check.badArgument(school, () -> school.talk(0, 0));
        Check.badArgument(school, () -> school.talk(0, 4));
        Check.noSuch(school, () -> school.talk(1, 1));
    }

    static void p07_refusedTalkIsNotCounted() {
        TongueSchool school = Schools.with(2, 1);
        school.talk(0, 1);
        school.talk(0, 1);
        for (int time = 0; time < 3; time++) {
            school.correct(0, 1, TongueSchool.EXPLICIT);
        }
        Check.badState(school, () -> school.talk(0, 1));
        Check.badArgument(school, () -> school.talk(0, 5));
        school.pass(1);
        Check.same("FOSSILS", 0, school.forms(0, 2));
        school.talk(0, 1);
        Check.same("FOSSILS", 1, school.forms(0, 2));
    }

    static void p08_aRecastHelpsFromAQuarterOn() {
        TongueSchool school = Schools.with(1, 1);
        Check.bits("at 0f", 0f, school.correct(0, 0, TongueSchool.RECAST));
        school.lesson(0, 0);
        Check.bits("at 0.25f", Schools.grown(0.25f, 0.0625f), school.correct(0, 0, TongueSchool.RECAST));
        TongueSchool below = Schools.atJustBelowQuarter(1);
        Check.bits("strength", Schools.BELOW_QUARTER, below.strength(0, 0));
        Check.bits("just below", Schools.BELOW_QUARTER, below.correct(0, 0, TongueSchool.RECAST));
    }

    static void p08_aPromptHelpsWhatIsKnown() {
        TongueSchool below = Schools.atJustBelowHalf(1);
        Check.bits("just below", Schools.BELOW_HALF, below.correct(0, 0, TongueSchool.PROMPT));
        TongueSchool at = Schools.with(1, 1);
        Schools.makeKnown(at, 0, 0);
        Check.bits("at 0.5f", Schools.grown(0.5f, 0.125f), at.correct(0, 0, TongueSchool.PROMPT));
    }

    static void p08_explicitHelpsInAnyCase() {
        TongueSchool school = Schools.with(1, 1);
        school.form(1);
        Check.bits("not READY", 0.125f, school.correct(0, 1, TongueSchool.EXPLICIT));
        float strength = 0f;
        for (int time = 0; time < 8; time++) {
            strength = Schools.grown(strength, 0.125f);
            Check.bits("also when HUSHED", strength, school.correct(0, 0, TongueSchool.EXPLICIT));
        }
        Check.same("taught", 0, school.forms(0, 3));
    }

    static void p08_recastsAndPromptsUpsetNobody() {
        TongueSchool school = Schools.with(1, 1);
        Schools.makeKnown(school, 0, 0);
        for (int time = 0; time < 5; time++) {
            school.correct(0, 0, TongueSchool.RECAST);
            school.correct(0, 0, TongueSchool.PROMPT);
        }
        Check.same("HUSHED", false, school.isHushed(0));
    }

    static void p08_theSecondExplicitOfAFossilMendsIt() {
        TongueSchool school = Schools.with(2, 1);
        school.correct(0, 0, TongueSchool.EXPLICIT);
        school.pass(1);
        Schools.makeFossil(school, 0, 0);
        school.correct(0, 0, TongueSchool.EXPLICIT);
        school.correct(0, 1, TongueSchool.EXPLICIT);
        school.correct(0, 0, TongueSchool.RECAST);
        school.correct(0, 0, TongueSchool.PROMPT);
        Check.same("FOSSIL after one", 1, school.forms(0, 2));
        school.pass(1);
        school.correct(0, 0, TongueSchool.EXPLICIT);
        Check.same("FOSSIL after two", 0, school.forms(0, 2));
    }

    static void p08_aMendedFossilIsCountedAnew() {
        TongueSchool school = Schools.with(1, 1);
        Schools.makeFossil(school, 0, 0);
        school.talk(0, 1);
        school.talk(0, 1);
        school.correct(0, 0, TongueSchool.EXPLICIT);
        school.correct(0, 0, TongueSchool.EXPLICIT);
        school.talk(0, 1);
        school.talk(0, 1);
        Check.same("FOSSIL after two errors", 0, school.forms(0, 2));
        school.talk(0, 1);
        Check.same("FOSSIL after three errors", 1, school.forms(0, 2));
        school.correct(0, 0, TongueSchool.EXPLICIT);
        Check.same("corrected once since", 1, school.forms(0, 2));
        school.correct(0, 0, TongueSchool.EXPLICIT);
        Check.same("corrected twice since", 0, school.forms(0, 2));
    }

    static void p08_aMendedFossilHasWholeLessons() {
        TongueSchool school = Schools.with(1, 1);
        Schools.makeFossil(school, 0, 0);
        float strength = Schools.grown(0f, 0.125f);
        school.correct(0, 0, TongueSchool.EXPLICIT);
        strength = Schools.grown(strength, 0.125f);
        Check.bits("a FOSSIL", strength, school.lesson(0, 0));
        strength = Schools.grown(strength, 0.125f);
        school.correct(0, 0, TongueSchool.EXPLICIT);
        strength = Schools.grown(strength, 0.25f);
        Check.bits("none any more", strength, school.lesson(0, 0));
    }

    static void p08_correctRefuses() {
        TongueSchool school = Schools.with(1, 1);
        Check.noSuch(school, () -> school.correct(1, 0, 0));
        Check.noSuch(school, () -> school.correct(-1, 0, 3));
        Check.noSuch(school, () -> school.correct(0, 1, 3));
        Check.noSuch(school, () -> school.correct(0, -1, 0));
        Check.badArgument(school, () -> school.correct(0, 0, 3));
        Check.badArgument(school, () -> school.correct(0, 0, -1));
        Check.badArgument(school, () -> school.correct(0, 0, Integer.MIN_VALUE));
        Check.badArgument(school, () -> school.correct(0, 0, Integer.MAX_VALUE));
    }

    static void p22_theThirdUpsetHushes() {
        TongueSchool school = Schools.with(2, 2);
        school.correct(0, 0, TongueSchool.EXPLICIT);
        school.correct(0, 1, TongueSchool.EXPLICIT);
        Check.same("upset twice", false, school.isHushed(0));
        school.talk(0, 1);
        school.correct(0, 0, TongueSchool.EXPLICIT);
        Check.same("upset three times", true, school.isHushed(0));
        Check.same("another LEARNER", false, school.isHushed(1));
        Check.badState(school, () -> school.talk(0, 1));
        school.correct(0, 0, TongueSchool.EXPLICIT);
        Check.same("upset four times", true, school.isHushed(0));
        school.lesson(0, 0);
        school.pass(1);
        Check.same("on the next day", false, school.isHushed(0));
        Check.same("who talks again", 3, school.talk(0, 3));
    }

    static void p22_upsetsAreCountedFromZeroOnEachDay() {
        TongueSchool school = Schools.with(1, 1);
        school.correct(0, 0, TongueSchool.EXPLICIT);
        school.correct(0, 0, TongueSchool.EXPLICIT);
        school.pass(1);
        school.correct(0, 0, TongueSchool.EXPLICIT);
        Check.same("HUSHED", false, school.isHushed(0));
        school.correct(0, 0, TongueSchool.EXPLICIT);
        Check.same("upset twice on the new day", false, school.isHushed(0));
        school.correct(0, 0, TongueSchool.EXPLICIT);
        Check.same("upset three times on the new day", true, school.isHushed(0));
        Check.noSuch(school, () -> school.isHushed(1));
        Check.noSuch(school, () -> school.isHushed(-1));
        Check.noSuch(school, () -> school.isHushed(Integer.MAX_VALUE));
    }

    static void p23_theFirstCauseIsTold() {
        TongueSchool school = Schools.withTongues(1);
        school.form(1);
        school.transfer(Schools.HINDERED, 1, -1);
        Schools.makeFossil(school, Schools.HINDERED, 1);
        Check.same("not READY", 1, school.cause(Schools.HINDERED, 1));
        Schools.makeFossil(school, Schools.HINDERED, 0);
        Check.same("a FOSSIL", 2, school.cause(Schools.HINDERED, 0));
        school.correct(Schools.HINDERED, 0, TongueSchool.EXPLICIT);
        school.correct(Schools.HINDERED, 0, TongueSchool.EXPLICIT);
        Check.same("HINDERED", 3, school.cause(Schools.HINDERED, 0));
        school.lesson(Schools.HINDERED, 0);
        Check.same("HINDERED still", 3, school.cause(Schools.HINDERED, 0));
        Check.same("no lesson", 4, school.cause(Schools.NEUTRAL, 0));
        Check.same("no lesson, HELPED", 4, school.cause(Schools.HELPED, 0));
        school.lesson(Schools.NEUTRAL, 0);
        Check.same("forgotten", 5, school.cause(Schools.NEUTRAL, 0));
        school.lesson(Schools.HELPED, 0);
        Check.same("KNOWN", 0, school.cause(Schools.HELPED, 0));
        Check.same("READY, no lesson", 4, school.cause(Schools.HELPED, 1));
    }

    static void p23_noCauseOfWhatIsKnownThoughNotReady() {
        TongueSchool school = Schools.with(1, 1);
        school.form(1);
        Schools.makeFossil(school, 0, 1);
        school.correct(0, 1, TongueSchool.EXPLICIT);
        for (int time = 0; time < 4; time++) {
            school.correct(0, 1, TongueSchool.EXPLICIT);
        }
        Check.same("not KNOWN", 1, school.cause(0, 1));
        school.correct(0, 1, TongueSchool.EXPLICIT);
        Check.same("KNOWN", 0, school.cause(0, 1));
    }

    static void p23_causeAtAndJustBelowHalf() {
        Check.same("just below", 5, Schools.atJustBelowHalf(1).cause(0, 0));
        Check.same("of what needs it", 1, Schools.atJustBelowHalf(2).cause(0, 1));
        TongueSchool at = Schools.with(1, 1);
        Schools.makeKnown(at, 0, 0);
        Check.same("at", 0, at.cause(0, 0));
    }

    static void p23_causeRefuses() {
        TongueSchool school = Schools.with(1, 1);
        Check.noSuch(school, () -> school.cause(1, 0));
        Check.noSuch(school, () -> school.cause(-1, 0));
        Check.noSuch(school, () -> school.cause(0, 1));
        Check.noSuch(school, () -> school.cause(0, Integer.MIN_VALUE));
    }
}
