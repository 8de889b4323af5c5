/** Promises 18 to 21. */
final class LooksTest {
    private static final String NO_LEARNER = "Throws `IndexOutOfBoundsException` if there is no such LEARNER";
    private static final String NO_LEARNER_OR_FORM = NO_LEARNER + " or FORM";
    private static final String BAD_WHAT = "Throws `IllegalArgumentException` if what is out of range";
    private static final String FIRST_NAMED = "the one that is named first in the throws clause is thrown";
    private static final String KNOWN = "A FORM is KNOWN to a LEARNER, if the strength is at least 0.5f";
    private static final String READY = "it is READY, if all its NEEDS are KNOWN";
    private static final String SETS = "0 KNOWN, 1 READY, 2 FOSSILS, 3 those of which lessons were given";
    private static final String BITS = "A float is told as Float.floatToIntBits tells it.";
    private static final String LEVEL = "The LEVEL of a LEARNER is how many FORMS are KNOWN.";

    private LooksTest() {
    }

    // ---- 18: day

    @Holds({"Returns the day.", "Days are counted from 0, at most 999."})
    static void p18_day_isCountedFrom0To999() {
        School school = new School();
        Check.same("day", 0, school.day());
        school.pass(1);
        Check.same("day", 1, school.day());
        for (int month = 0; month < 33; month++) {
            school.pass(30);
        }
        Check.same("day", 991, school.day());
        school.pass(8);
        Check.same("day", 999, school.day());
        Check.badState(school, () -> school.pass(1));
        Check.same("day", 999, school.day());
    }

    // ---- 19: strength

    @Holds({"Returns a strength.", "All strengths, gains, abilities and difficulties are floats"})
    static void p19_strength_isOfThatLearnerAndForm() {
        School school = Schools.with(12, 6);
        school.lesson(5, 11);
        for (int learner = 0; learner < 6; learner++) {
            for (int form = 0; form < 12; form++) {
                Check.bits("strength", learner == 5 && form == 11 ? 0.25f : 0f, school.strength(learner, form));
            }
        }
    }

    @Holds(BITS)
    static void p19_strength_tellsTheBitsDownToTheLeastFloats() {
        School school = Schools.with(1, 1);
        float strength = 0.25f;
        school.lesson(0, 0);
        for (int time = 0; time < 240; time++) {
            school.pass(4);
            for (int night = 0; night < 4; night++) {
                strength = strength * 0.875f;
            }
            Check.bits("after days", strength, school.strength(0, 0));
        }
        Check.same("the last is subnormal", true, strength < Float.MIN_NORMAL && strength > 0f);
    }

    @Holds(BITS)
    static void p19_strength_tellsTheBitsUpTo1() {
        School school = Schools.with(1, 1);
        float strength = 0f;
        for (int time = 0; time < 200; time++) {
            strength = Schools.grown(strength, 0.125f);
            Check.bits("correct", strength, school.correct(0, 0, Schools.EXPLICIT));
            Check.bits("strength", strength, school.strength(0, 0));
        }
        Check.same("close to 1f", true, strength > 0.99999f);
    }

    @Holds(NO_LEARNER_OR_FORM)
    static void p19_strength_ofNoSuchLearnerIsRefused() {
        for (int learners = 0; learners <= 6; learners += 3) {
            School school = Schools.with(1, learners);
            Check.noSuchBeyond(school, learners, learner -> school.strength(learner, 0));
        }
    }

    @Holds(NO_LEARNER_OR_FORM)
    static void p19_strength_ofNoSuchFormIsRefused() {
        for (int forms = 0; forms <= 12; forms += 4) {
            School school = Schools.with(forms, 1);
            Check.noSuchBeyond(school, forms, form -> school.strength(0, form));
        }
    }

    // ---- 20: level

    @Holds({"Returns the LEVEL of a LEARNER.", LEVEL})
    static void p20_level_is0ToAllTwelve() {
        School school = Schools.with(12, 2);
        for (int form = 0; form < 12; form++) {
            Check.same("level", form, school.level(0));
            Schools.makeKnownUntaught(school, 0, form);
        }
        Check.same("level", 12, school.level(0));
        Check.same("of another LEARNER", 0, school.level(1));
    }

    @Holds({LEVEL, KNOWN})
    static void p20_level_countsWhatIsAtHalfAndNotJustBelow() {
        Check.same("just below", 0, Schools.justBelowHalf(2).level(0));
        Check.same("at", 1, Schools.atHalf(2).level(0));
    }

    @Holds(LEVEL)
    static void p20_level_is0WithoutForms() {
        Check.same("level", 0, Schools.with(0, 1).level(0));
    }

    @Holds(NO_LEARNER)
    static void p20_level_ofNoSuchLearnerIsRefused() {
        for (int learners = 0; learners <= 6; learners += 3) {
            School school = Schools.with(1, learners);
            Check.noSuchBeyond(school, learners, learner -> school.level(learner));
        }
    }

    // ---- 21: forms

    @Holds({"Tells sets of FORMS of a LEARNER, as bits: " + SETS, "sets are told by bits"})
    static void p21_forms_tellsFourSets() {
        School school = Schools.with(3, 2);
        school.form(1);
        Schools.makeKnown(school, 0, 0);
        Schools.makeFossil(school, 0, 2);
        school.lesson(0, 3);
        Check.same("KNOWN", 1, school.forms(0, 0));
        Check.same("READY", 15, school.forms(0, 1));
        Check.same("FOSSILS", 4, school.forms(0, 2));
        Check.same("taught", 9, school.forms(0, 3));
        int[] ofAnother = {0, 7, 0, 0};
        for (int what = 0; what < 4; what++) {
            Check.same("of another LEARNER", ofAnother[what], school.forms(1, what));
        }
    }

    @Holds(SETS)
    static void p21_forms_mayBeAllTwelve() {
        School school = Schools.with(12, 1);
        Check.same("READY", 4095, school.forms(0, Schools.READY));
        for (int time = 0; time < 3; time++) {
            school.talk(0, 4095);
        }
        Check.same("FOSSILS", 4095, school.forms(0, Schools.FOSSILS));
        for (int form = 0; form < 12; form++) {
            school.lesson(0, form);
            if (form % 3 == 2) {
                school.pass(1);
            }
        }
        Check.same("taught", 4095, school.forms(0, Schools.TAUGHT));
        for (int form = 0; form < 12; form++) {
            Schools.makeKnownUntaught(school, 0, form);
        }
        Check.same("KNOWN", 4095, school.forms(0, Schools.KNOWN));
    }

    @Holds(SETS)
    static void p21_forms_areEmptyWithoutForms() {
        School empty = Schools.with(0, 1);
        for (int what = 0; what < 4; what++) {
            Check.same("set", 0, empty.forms(0, what));
        }
    }

    @Holds({KNOWN, READY})
    static void p21_forms_knownAndReadyAtHalfAndJustBelow() {
        School below = Schools.justBelowHalf(2);
        Check.same("KNOWN just below", 0, below.forms(0, Schools.KNOWN));
        Check.same("READY just below", 1, below.forms(0, Schools.READY));
        School at = Schools.atHalf(2);
        Check.same("KNOWN at", 1, at.forms(0, Schools.KNOWN));
        Check.same("READY at", 3, at.forms(0, Schools.READY));
    }

    @Holds("3 those of which lessons were given")
    static void p21_forms_taughtStaysWhenAllElseIsForgotten() {
        School school = Schools.with(2, 1);
        school.lesson(0, 1);
        school.pass(30);
        school.correct(0, 0, Schools.EXPLICIT);
        Check.same("taught", 2, school.forms(0, Schools.TAUGHT));
    }

    @Holds({"- `what`: 0 to 3", BAD_WHAT})
    static void p21_what_is0To3() {
        School school = Schools.with(1, 1);
        Check.badBeyond(school, 0, 3, what -> school.forms(0, what));
        Check.same("the first", 0, school.forms(0, 0));
        Check.same("the last", 0, school.forms(0, 3));
    }

    @Holds(NO_LEARNER)
    static void p21_forms_ofNoSuchLearnerIsRefused() {
        for (int learners = 0; learners <= 6; learners += 3) {
            School school = Schools.with(1, learners);
            Check.noSuchBeyond(school, learners, learner -> school.forms(learner, 0));
        }
    }

    @Holds({FIRST_NAMED, NO_LEARNER, BAD_WHAT})
    static void p21_order_noSuchLearnerComesAheadOfBadWhat() {
        School school = Schools.with(1, 1);
        Check.noSuch(school, () -> school.forms(1, 4), () -> school.forms(-1, -1));
    }
}
