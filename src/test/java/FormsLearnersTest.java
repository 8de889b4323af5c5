/** Promises 1 to 4. */
final class FormsLearnersTest {
    private static final String NO_TONGUE = "Throws `IndexOutOfBoundsException` if there is no such TONGUE";
    private static final String NO_TONGUE_OR_FORM = NO_TONGUE + " or FORM";
    private static final String BAD_NEEDS = "Throws `IllegalArgumentException` if needs is out of range";
    private static final String TWELVE_FORMS = "Throws `IllegalStateException` if there are 12";
    private static final String BAD_HOW = "Throws `IllegalArgumentException` if how is out of range";
    private static final String SIX_LEARNERS = "Throws `IllegalStateException` if there are 6";
    private static final String FIRST_NAMED = "the one that is named first in the throws clause is thrown";
    private static final String NO_SUCH_ONE = "throws IndexOutOfBoundsException if there is no such one";
    private static final String OTHERS = "a set with others than are there is out of range";

    private FormsLearnersTest() {
    }

    // ---- 1: a new object

    @Holds("No FORMS and LEARNERS; the day 0.")
    static void p01_newObject_hasNoForms() {
        School school = new School();
        Check.noSuch(school, () -> school.transfer(0, 0, 0));
        Check.badArgument(school, () -> school.form(1), () -> school.text(1));
        Check.same("the first FORM", 0, school.form(0));
    }

    @Holds("No FORMS and LEARNERS; the day 0.")
    static void p01_newObject_hasNoLearners() {
        School school = new School();
        Check.noSuch(school, () -> school.level(0), () -> school.ability(0), () -> school.next(0));
        Check.badArgument(school, () -> school.group(1), () -> school.cost(1));
        Check.same("the first LEARNER", 0, school.learner(0));
    }

    @Holds("the day 0.")
    static void p01_newObject_isAtTheDay0() {
        Check.same("day", 0, new School().day());
    }

    @Holds({"TEXTS are numbered from 0", "SHELVES are numbered from 0", "ITEMS are numbered from 0"})
    static void p01_newObject_hasNoTextsShelvesItems() {
        School school = Schools.with(1, 1);
        Check.noSuch(school, () -> school.read(0, 0), () -> school.at(0, 0), () -> school.difficulty(0));
        Check.same("the first TEXT", 0, school.text(1));
        Check.same("the first SHELF", 0, school.shelf(0));
        Check.same("the first ITEM", 0, school.item(0));
    }

    @Holds({"The constants: `NONE = -1`: There is none.", "`TEXTS = 0, FORMS = 1, ANY = 2`: KINDS of SHELVES.",
        "`RECAST = 0, PROMPT = 1, EXPLICIT = 2`: WAYS to correct."})
    static void p01_constants_areThoseOfTheDocument() {
        Check.same("NONE", -1, TongueSchool.NONE);
        Check.same("TEXTS", 0, TongueSchool.TEXTS);
        Check.same("FORMS", 1, TongueSchool.FORMS);
        Check.same("ANY", 2, TongueSchool.ANY);
        Check.same("RECAST", 0, TongueSchool.RECAST);
        Check.same("PROMPT", 1, TongueSchool.PROMPT);
        Check.same("EXPLICIT", 2, TongueSchool.EXPLICIT);
    }

    @Holds("No FORMS and LEARNERS")
    static void p01_newObject_sharesNothingWithOthers() {
        School one = Schools.with(2, 1);
        School other = new School();
        one.lesson(0, 0);
        one.pass(3);
        Check.same("day of the other", 0, other.day());
        Check.same("its first FORM", 0, other.form(0));
        Check.same("its first LEARNER", 0, other.learner(1));
        Check.bits("its strength", 0f, other.strength(0, 0));
    }

    // ---- 2: form

    @Holds({"Adds a FORM.", "Returns its number.", "FORMS are numbered from 0, at most 12"})
    static void p02_form_numbersFrom0AndThe12thIs11() {
        School school = Schools.with(0, 1);
        for (int form = 0; form < 12; form++) {
            Check.same("form", form, school.form(0));
        }
        Check.bits("strength of the 12th", 0.25f, school.lesson(0, 11));
    }

    @Holds(TWELVE_FORMS)
    static void p02_form_the13thIsRefused() {
        School school = Schools.with(12, 1);
        Check.badState(school, () -> school.form(0), () -> school.form(1), () -> school.form(4095));
        Check.same("READY", 4095, school.forms(0, Schools.READY));
    }

    @Holds({"- `needs`: a set of FORMS", "sets are told by bits"})
    static void p02_needs_mayBeEmptyOrAllThatAreThere() {
        School school = Schools.with(0, 1);
        for (int form = 0; form < 12; form++) {
            Check.same("form", form, school.form((1 << form) - 1));
        }
        for (int form = 0; form < 12; form++) {
            Check.same("READY", (2 << form) - 1, school.forms(0, Schools.READY));
            Schools.makeKnownUntaught(school, 0, form);
        }
    }

    @Holds({BAD_NEEDS, "each with NEEDS, a set of FORMS with lower numbers", OTHERS})
    static void p02_needs_ofItselfOrOneThatIsNotThereAreRefused() {
        for (int forms = 0; forms < 12; forms++) {
            School school = Schools.with(forms, 0);
            Check.badSets(school, forms, needs -> school.form(needs));
            Check.same("form", forms, school.form((1 << forms) - 1));
        }
    }

    @Holds({FIRST_NAMED, BAD_NEEDS, TWELVE_FORMS})
    static void p02_order_badNeedsComeAheadOfTooManyForms() {
        School school = Schools.with(12, 1);
        Check.badSets(school, 12, needs -> school.form(needs));
    }

    @Holds("it is READY, if all its NEEDS are KNOWN")
    static void p02_needs_allDecideWhatIsReady() {
        School school = Schools.with(2, 1);
        school.form(3);
        school.form(2);
        Check.same("READY at first", 3, school.forms(0, Schools.READY));
        Schools.makeKnown(school, 0, 1);
        Check.same("READY with 1", 11, school.forms(0, Schools.READY));
        Schools.makeKnown(school, 0, 0);
        Check.same("READY with both", 15, school.forms(0, Schools.READY));
    }

    @Holds("it is READY, if all its NEEDS are KNOWN")
    static void p02_needs_ofWhatItNeedsAreNotItsOwn() {
        School school = Schools.with(1, 1);
        school.form(1);
        school.form(2);
        Schools.makeKnownUntaught(school, 0, 1);
        Check.same("READY", 5, school.forms(0, Schools.READY));
        Check.bits("lesson", 0.25f, school.lesson(0, 2));
    }

    // ---- 3: transfer

    @Holds({"Tells how a TONGUE bears on a FORM.", "Returns how it did.", "or does neither 0, as at first"})
    static void p03_transfer_returnsHowItDidAnd0AtFirst() {
        School school = Schools.with(2, 0);
        Check.same("at first", 0, school.transfer(3, 1, -1));
        Check.same("then", -1, school.transfer(3, 1, 1));
        Check.same("then", 1, school.transfer(3, 1, 0));
        Check.same("then", 0, school.transfer(3, 1, 0));
    }

    @Holds("a TONGUE HELPS 1 a FORM, or HINDERS -1 it")
    static void p03_transfer_isOfThatTongueAndFormAlone() {
        School school = Schools.with(2, 0);
        school.transfer(1, 1, 1);
        school.transfer(2, 1, -1);
        Check.same("another FORM", 0, school.transfer(1, 0, 0));
        Check.same("another TONGUE", 0, school.transfer(0, 1, 0));
        Check.same("another TONGUE", 0, school.transfer(3, 1, 0));
        Check.same("HELPS", 1, school.transfer(1, 1, 0));
        Check.same("HINDERS", -1, school.transfer(2, 1, 0));
    }

    @Holds("a TONGUE HELPS 1 a FORM, or HINDERS -1 it, or does neither 0")
    static void p03_transfer_bearsOnLessonsOfThatTongue() {
        School school = Schools.withTongues(1);
        Check.bits("neither", 0.25f, school.lesson(Schools.NEUTRAL, 0));
        Check.bits("HELPS", 0.5f, school.lesson(Schools.HELPED, 0));
        Check.bits("HINDERS", 0.125f, school.lesson(Schools.HINDERED, 0));
    }

    @Holds({NO_TONGUE_OR_FORM, "There are the TONGUES 0 to 3"})
    static void p03_transfer_tongues0And3AreThereAndOthersNot() {
        School school = Schools.with(2, 1);
        Check.same("the TONGUE 0", 0, school.transfer(0, 1, 1));
        Check.same("the TONGUE 3", 0, school.transfer(3, 1, 1));
        Check.noSuchBeyond(school, 4, tongue -> school.transfer(tongue, 1, -1));
        Check.same("the TONGUE 0", 1, school.transfer(0, 1, 0));
    }

    @Holds({NO_TONGUE_OR_FORM, NO_SUCH_ONE})
    static void p03_transfer_ofNoSuchFormIsRefused() {
        for (int forms = 0; forms <= 12; forms += 6) {
            School school = Schools.with(forms, 1);
            Check.noSuchBeyond(school, forms, form -> school.transfer(0, form, 1));
        }
        School full = Schools.with(12, 0);
        Check.same("the last FORM", 0, full.transfer(0, 11, 1));
    }

    @Holds({BAD_HOW, "- `how`: -1 to 1"})
    static void p03_how_isMinus1To1() {
        School school = Schools.with(2, 1);
        for (int before = -1; before <= 1; before++) {
            school.transfer(0, 1, before);
            Check.badBeyond(school, -1, 1, how -> school.transfer(0, 1, how));
            Check.same("as it was", before, school.transfer(0, 1, before));
        }
    }

    @Holds({FIRST_NAMED, NO_TONGUE_OR_FORM, BAD_HOW})
    static void p03_order_noSuchTongueOrFormComesAheadOfBadHow() {
        School school = Schools.with(2, 1);
        Check.noSuch(school, () -> school.transfer(4, 0, 2), () -> school.transfer(-1, 0, -2),
                () -> school.transfer(0, 2, 2), () -> school.transfer(0, -1, Integer.MIN_VALUE),
                () -> school.transfer(4, 2, 2), () -> school.transfer(-1, -1, 0));
    }

    // ---- 4: learner

    @Holds({"Adds a LEARNER.", "Returns the number.", "LEARNERS are numbered from 0, at most 6, each of a TONGUE"})
    static void p04_learner_numbersFrom0AndThe6thIs5() {
        School school = Schools.with(1, 0);
        for (int learner = 0; learner < 6; learner++) {
            Check.same("learner", learner, school.learner(learner % 4));
        }
        Check.bits("strength of the 6th", 0.25f, school.lesson(5, 0));
    }

    @Holds(SIX_LEARNERS)
    static void p04_learner_the7thIsRefused() {
        School school = Schools.with(1, 6);
        school.lesson(5, 0);
        Check.badState(school, () -> school.learner(0), () -> school.learner(3));
        Check.noSuch(school, () -> school.level(6));
    }

    @Holds({NO_TONGUE, "There are the TONGUES 0 to 3"})
    static void p04_learner_ofNoSuchTongueIsRefused() {
        School school = Schools.with(1, 0);
        Check.noSuchBeyond(school, 4, tongue -> school.learner(tongue));
        Check.same("of the TONGUE 3", 0, school.learner(3));
        Check.same("of the TONGUE 0", 1, school.learner(0));
    }

    @Holds({FIRST_NAMED, NO_TONGUE, SIX_LEARNERS})
    static void p04_order_noSuchTongueComesAheadOfTooManyLearners() {
        School school = Schools.with(1, 6);
        Check.noSuchBeyond(school, 4, tongue -> school.learner(tongue));
    }

    @Holds("Of each FORM a LEARNER has a strength, 0f at first")
    static void p04_learner_hasNoStrengthAtFirst() {
        School school = Schools.with(12, 1);
        school.lesson(0, 3);
        school.learner(0);
        for (int form = 0; form < 12; form++) {
            Check.bits("strength", 0f, school.strength(1, form));
        }
    }

    @Holds("also of FORMS that come later")
    static void p04_learner_hasNoStrengthOfFormsThatComeLater() {
        School school = Schools.with(1, 1);
        school.lesson(0, 0);
        school.pass(1);
        school.abroad(0, 9);
        school.form(0);
        Check.bits("strength of the later FORM", 0f, school.strength(0, 1));
        Check.bits("which grows as others do", 0.25f, school.lesson(0, 1));
    }
}
