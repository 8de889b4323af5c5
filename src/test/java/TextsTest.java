/** Promises 12, 13 and 24. */
final class TextsTest {
    private static final String NO_LEARNER = "Throws `IndexOutOfBoundsException` if there is no such LEARNER";
    private static final String NO_LEARNER_OR_TEXT = NO_LEARNER + " or TEXT";
    private static final String BAD_FORMS = "Throws `IllegalArgumentException` if forms is out of range, or empty";
    private static final String TEN_TEXTS = "Throws `IllegalStateException` if there are 10";
    private static final String CANNOT_OR_WAS = "Throws `IllegalStateException` if it cannot be read, or was";
    private static final String FIRST_NAMED = "the one that is named first in the throws clause is thrown";
    private static final String OTHERS = "a set with others than are there is out of range";
    private static final String ONE_UNKNOWN = "if at most one FORM of it is not KNOWN";
    private static final String ONCE = "A LEARNER can read a TEXT once";
    private static final String NEXT_TEXT = "The NEXT TEXT of a LEARNER is, of those that can be read";
    private static final String MOST_WEAK = "the one with the most FORMS whose strength is below 0.75f";
    private static final String PERHAPS_NONE = "below 0.75f, perhaps none";
    private static final String LOWEST = "perhaps none, of several the lowest";
    private static final String OR_NONE = "Returns the TEXT; NONE without.";

    private TextsTest() {
    }

    // ---- 12: text

    @Holds({"Adds a TEXT.", "Returns its number.", "TEXTS are numbered from 0, at most 10"})
    static void p12_text_numbersFrom0AndThe10thIs9() {
        School school = Schools.with(3, 1);
        for (int text = 0; text < 10; text++) {
            Check.same("text", text, school.text(1 + text % 3));
        }
        Check.same("the 10th is there", 0, school.read(0, 9));
    }

    @Holds(TEN_TEXTS)
    static void p12_text_the11thIsRefused() {
        School school = Schools.with(3, 1);
        for (int text = 0; text < 10; text++) {
            school.text(7);
        }
        Check.badState(school, () -> school.text(1), () -> school.text(7));
        Check.noSuch(school, () -> school.read(0, 10));
    }

    @Holds({"- `forms`: the set, at least one", "each with a set of FORMS, at least one"})
    static void p12_forms_mayBeOneOrAllTwelve() {
        School school = Schools.with(12, 1);
        Check.same("the first alone", 0, school.text(1));
        Check.same("the last alone", 1, school.text(1 << 11));
        Check.same("all", 2, school.text(4095));
        school.read(0, 1);
        Check.bits("of the last", 0.0625f, school.strength(0, 11));
        Check.bits("of no other", 0f, school.strength(0, 0));
    }

    @Holds({BAD_FORMS, "- `forms`: the set, at least one"})
    static void p12_forms_emptyIsRefused() {
        School school = Schools.with(2, 1);
        Check.badArgument(school, () -> school.text(0));
        School without = Schools.with(0, 1);
        Check.badArgument(without, () -> without.text(0));
        Check.same("the first", 0, school.text(1));
    }

    @Holds({BAD_FORMS, OTHERS})
    static void p12_forms_withOthersThanAreThereAreRefused() {
        for (int forms = 0; forms <= 12; forms += 4) {
            School school = Schools.with(forms, 1);
            Check.badSets(school, forms, set -> school.text(set));
        }
    }

    @Holds({FIRST_NAMED, BAD_FORMS, TEN_TEXTS})
    static void p12_order_badFormsComeAheadOfTooManyTexts() {
        School school = Schools.with(3, 1);
        for (int text = 0; text < 10; text++) {
            school.text(7);
        }
        Check.badArgument(school, () -> school.text(0));
        Check.badSets(school, 3, set -> school.text(set));
    }

    // ---- 13: read

    @Holds({"A LEARNER reads a TEXT.", "the strength of each FORM of it GROWS by 0.0625f"})
    static void p13_read_growsEachFormOfIt() {
        School school = Schools.with(3, 2);
        Schools.makeKnown(school, 0, 0);
        school.text(3);
        school.read(0, 0);
        Check.bits("KNOWN one", Schools.grown(0.5f, 0.0625f), school.strength(0, 0));
        Check.bits("the other", 0.0625f, school.strength(0, 1));
        Check.bits("not of the TEXT", 0f, school.strength(0, 2));
        Check.bits("another LEARNER", 0f, school.strength(1, 0));
    }

    @Holds("Returns the LEVEL then.")
    static void p13_read_returnsTheLevelBehindIt() {
        School school = Schools.justBelowHalf(1);
        school.text(1);
        Check.same("level ahead of it", 0, school.level(0));
        Check.same("level then", 1, school.read(0, 0));
    }

    @Holds({ONE_UNKNOWN, CANNOT_OR_WAS})
    static void p13_read_withOneUnknownFormAndWithTwo() {
        School school = Schools.with(3, 1);
        school.text(3);
        school.text(7);
        school.text(4);
        Check.badState(school, () -> school.read(0, 0), () -> school.read(0, 1));
        Schools.makeKnown(school, 0, 0);
        Check.badState(school, () -> school.read(0, 1));
        Check.same("one of two unknown", 1, school.read(0, 0));
        Check.same("the only one unknown", 1, school.read(0, 2));
        Schools.makeKnown(school, 0, 1);
        Check.same("one of three unknown", 2, school.read(0, 1));
    }

    @Holds(ONE_UNKNOWN)
    static void p13_read_withNoUnknownForm() {
        School school = Schools.with(2, 1);
        school.text(3);
        Schools.makeKnown(school, 0, 0);
        Schools.makeKnown(school, 0, 1);
        Check.same("level", 2, school.read(0, 0));
        Check.bits("strength", Schools.grown(0.5f, 0.0625f), school.strength(0, 1));
    }

    @Holds({ONE_UNKNOWN, "A FORM is KNOWN to a LEARNER, if the strength is at least 0.5f"})
    static void p13_read_atHalfIsKnownAndJustBelowIsNot() {
        School below = Schools.justBelowHalf(3);
        below.text(5);
        Check.badState(below, () -> below.read(0, 0));
        School at = Schools.atHalf(3);
        at.text(5);
        Check.same("level", 1, at.read(0, 0));
    }

    @Holds(ONE_UNKNOWN)
    static void p13_read_theUnknownFormNeedNotBeReady() {
        School school = Schools.with(1, 1);
        school.form(1);
        school.text(2);
        school.read(0, 0);
        Check.bits("strength", 0.0625f, school.strength(0, 1));
        Check.same("READY", 1, school.forms(0, Schools.READY));
        Check.same("taught", 0, school.forms(0, Schools.TAUGHT));
    }

    @Holds({ONCE, CANNOT_OR_WAS})
    static void p13_read_oneThatWasReadIsRefused() {
        School school = Schools.with(1, 2);
        school.text(1);
        school.text(1);
        school.read(0, 1);
        Check.badState(school, () -> school.read(0, 1));
        school.pass(30);
        Check.badState(school, () -> school.read(0, 1));
        Check.same("another LEARNER", 0, school.read(1, 1));
        Check.same("another TEXT", 0, school.read(0, 0));
        Check.badState(school, () -> school.read(0, 0), () -> school.read(1, 1));
    }

    @Holds({ONCE, "A call that throws an exception changes nothing."})
    static void p13_read_refusedIsNotRead() {
        School school = Schools.with(2, 1);
        school.text(3);
        Check.badState(school, () -> school.read(0, 0));
        Schools.makeKnown(school, 0, 0);
        Check.same("level", 1, school.read(0, 0));
    }

    @Holds(NO_LEARNER_OR_TEXT)
    static void p13_read_ofNoSuchLearnerIsRefused() {
        for (int learners = 0; learners <= 6; learners += 3) {
            School school = Schools.with(1, learners);
            school.text(1);
            Check.noSuchBeyond(school, learners, learner -> school.read(learner, 0));
        }
    }

    @Holds(NO_LEARNER_OR_TEXT)
    static void p13_read_ofNoSuchTextIsRefused() {
        School school = Schools.with(1, 1);
        for (int texts = 0; texts <= 10; texts++) {
            if (texts % 5 == 0) {
                Check.noSuchBeyond(school, texts, text -> school.read(0, text));
            }
            if (texts < 10) {
                school.text(1);
            }
        }
    }

    @Holds({FIRST_NAMED, NO_LEARNER_OR_TEXT, CANNOT_OR_WAS})
    static void p13_order_noSuchLearnerComesAheadOfWhatCannotBeRead() {
        School school = Schools.with(2, 1);
        school.text(3);
        school.text(1);
        school.read(0, 1);
        Check.noSuch(school, () -> school.read(1, 0), () -> school.read(-1, 1), () -> school.read(0, 2));
    }

    // ---- 24: next

    @Holds({"Returns the NEXT TEXT.", NEXT_TEXT, OR_NONE})
    static void p24_next_isNoneWithoutOneThatCanBeRead() {
        School school = Schools.with(2, 1);
        Check.same("without TEXTS", TongueSchool.NONE, school.next(0));
        school.text(3);
        Check.same("two unknown FORMS", TongueSchool.NONE, school.next(0));
        school.text(1);
        Check.same("one unknown FORM", 1, school.next(0));
        school.read(0, 1);
        Check.same("which was read", TongueSchool.NONE, school.next(0));
    }

    @Holds(MOST_WEAK)
    static void p24_next_hasTheMostWeakForms() {
        School school = Schools.with(4, 1);
        school.text(15);
        school.text(1);
        school.text(9);
        school.text(11);
        Check.same("one weak", 1, school.next(0));
        Schools.makeKnown(school, 0, 0);
        Check.same("two weak", 2, school.next(0));
        Schools.makeKnown(school, 0, 1);
        Check.same("three weak", 3, school.next(0));
        Schools.makeKnown(school, 0, 2);
        Check.same("four weak", 0, school.next(0));
    }

    @Holds(NEXT_TEXT)
    static void p24_next_isNoneOfThoseThatWereRead() {
        School school = Schools.with(3, 2);
        Schools.makeKnown(school, 0, 0);
        Schools.makeKnown(school, 0, 1);
        school.text(1);
        school.text(7);
        school.text(3);
        Check.same("three weak", 1, school.next(0));
        school.read(0, 1);
        Check.same("two weak", 2, school.next(0));
        school.read(0, 2);
        Check.same("one weak", 0, school.next(0));
        school.read(0, 0);
        Check.same("all were read", TongueSchool.NONE, school.next(0));
        Check.same("not by another LEARNER", 0, school.next(1));
    }

    @Holds(LOWEST)
    static void p24_next_ofSeveralIsTheLowest() {
        School school = Schools.with(3, 1);
        school.text(7);
        school.text(4);
        school.text(2);
        school.text(1);
        Check.same("of three", 1, school.next(0));
        school.read(0, 1);
        Check.same("of two", 2, school.next(0));
        school.read(0, 2);
        Check.same("of one", 3, school.next(0));
    }

    @Holds({PERHAPS_NONE, LOWEST})
    static void p24_next_mayHaveNoWeakForm() {
        School school = Schools.atThreeQuarters(3);
        school.text(1);
        school.text(1);
        Check.same("none weak", 0, school.next(0));
        school.read(0, 0);
        Check.same("none weak", 1, school.next(0));
        school.text(5);
        Check.same("one weak", 2, school.next(0));
    }

    @Holds("whose strength is below 0.75f")
    static void p24_next_atThreeQuartersIsNotWeakAndJustBelowIs() {
        School below = Schools.justBelowThreeQuarters(3);
        below.text(4);
        below.text(5);
        Check.same("just below", 1, below.next(0));
        School at = Schools.atThreeQuarters(3);
        at.text(4);
        at.text(5);
        Check.same("at", 0, at.next(0));
    }

    @Holds({NEXT_TEXT, ONE_UNKNOWN})
    static void p24_next_atHalfCanBeReadAndJustBelowCannot() {
        School below = Schools.justBelowHalf(3);
        below.text(5);
        Check.same("just below", TongueSchool.NONE, below.next(0));
        School at = Schools.atHalf(3);
        at.text(5);
        Check.same("at", 0, at.next(0));
    }

    @Holds({OR_NONE, "TEXTS are numbered from 0, at most 10"})
    static void p24_next_mayBeTheFirstOrTheTenth() {
        School school = Schools.with(2, 1);
        for (int text = 0; text < 9; text++) {
            school.text(1);
        }
        school.text(3);
        Check.same("the first", 0, school.next(0));
        Schools.makeKnown(school, 0, 0);
        Check.same("the tenth", 9, school.next(0));
    }

    @Holds(NO_LEARNER)
    static void p24_next_ofNoSuchLearnerIsRefused() {
        for (int learners = 0; learners <= 6; learners += 3) {
            School school = Schools.with(1, learners);
            school.text(1);
            Check.noSuchBeyond(school, learners, learner -> school.next(learner));
        }
    }
}
