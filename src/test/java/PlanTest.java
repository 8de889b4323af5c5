/** Promises 30 to 32. */
final class PlanTest {
    private static final String NO_LEARNER = "Throws `IndexOutOfBoundsException` if there is no such LEARNER";
    private static final String BAD_LESSONS_OR_TURN = "Throws `IllegalArgumentException` if lessons or turn is out of range";
    private static final String BAD_LESSONS = "Throws `IllegalArgumentException` if lessons is out of range";
    private static final String FIRST_NAMED = "the one that is named first in the throws clause is thrown";
    private static final String LESSONS = "- `lessons`: 1 to 3";
    private static final String TURN = "- `turn`: 0 to less than lessons";
    private static final String GREATEST = "as if the day had just begun, the TOTAL becomes the greatest";
    private static final String LOWER_FIRST = "of several the one with the lower FORM where they differ first";
    private static final String READY_IN_TURN = "the row of FORMS, each as often as it comes, and READY as its turn comes";
    private static final String JUST_BEGUN = "one behind the other, as if the day had just begun";
    private static final String SUM = "The TOTAL is 0f + all strengths, from the FORM 0 on.";
    private static final String NO_PLAN = "There is none without FORMS.";
    private static final String OR_NONE = "Returns the FORM; NONE if there is no PLAN.";
    private static final String OR_NOW = "Returns the TOTAL that the PLAN comes to; that of now without a PLAN.";
    private static final String ANEW = "Returns the same, all rows of FORMS being tried.";

    private PlanTest() {
    }

    private static void planIs(School school, int learner, int... forms) {
        for (int turn = 0; turn < forms.length; turn++) {
            Check.same("turn " + turn + " of " + forms.length, forms[turn], school.plan(learner, forms.length, turn));
        }
    }

    private static void totalIs(School school, int learner, int lessons, float want) {
        Check.bits("total", want, school.total(learner, lessons));
        Check.bits("totalAnew", want, school.totalAnew(learner, lessons));
    }

    /** Two FORMS at 1f, of the LEARNER 0: no lesson makes anything greater. */
    private static School withNothingToGrow(int learners) {
        School school = Schools.with(2, learners);
        for (int form = 0; form < 2; form++) {
            school.transfer(0, form, 1);
            for (int day = 0; day < 9; day++) {
                for (int time = 0; time < 3; time++) {
                    school.lesson(0, form);
                }
                school.keep(0);
                school.pass(1);
                school.back(0);
            }
            Check.bits("strength", 1f, school.strength(0, form));
        }
        return school;
    }

    // ---- 30: plan

    @Holds({"Returns a FORM of the PLAN.", GREATEST})
    static void p30_plan_takesTheGreatestGains() {
        School school = Schools.with(3, 1);
        school.transfer(0, 1, 1);
        school.transfer(0, 2, -1);
        planIs(school, 0, 1);
        planIs(school, 0, 0, 1);
        planIs(school, 0, 0, 1, 1);
        school.lesson(0, 1);
        school.lesson(0, 1);
        planIs(school, 0, 0);
        planIs(school, 0, 0, 0);
        planIs(school, 0, 0, 0, 0);
    }

    @Holds({LOWER_FIRST, GREATEST})
    static void p30_plan_ofSeveralHasTheLowerFormFirst() {
        School school = Schools.with(12, 1);
        planIs(school, 0, 0);
        planIs(school, 0, 0, 1);
        planIs(school, 0, 0, 1, 2);
        school.lesson(0, 0);
        planIs(school, 0, 1);
        planIs(school, 0, 1, 2);
        planIs(school, 0, 1, 2, 3);
    }

    @Holds(LOWER_FIRST)
    static void p30_plan_ofSeveralThatDifferInTheLastTurn() {
        School school = Schools.with(3, 1);
        school.transfer(0, 0, 1);
        school.lesson(0, 1);
        school.lesson(0, 2);
        planIs(school, 0, 0, 0, 1);
    }

    @Holds(LOWER_FIRST)
    static void p30_plan_whereNothingGrowsIsTheLowestForm() {
        School school = withNothingToGrow(2);
        planIs(school, 1, 0, 0, 1);
        planIs(school, 0, 0);
        planIs(school, 0, 0, 0);
        planIs(school, 0, 0, 0, 0);
        totalIs(school, 0, 3, 2f);
        school.correct(1, 0, Schools.EXPLICIT);
        planIs(school, 1, 1);
        planIs(school, 0, 0);
        totalIs(school, 0, 1, 2f);
    }

    /** Near 1f the gains are so small that only the floats of the sum decide what is greatest. */
    @Holds({GREATEST, "each +, - and * is done as floats, one behind the other"})
    static void p30_plan_totalsAreComparedAsFloats() {
        School school = Schools.with(3, 1);
        school.transfer(0, 0, 1);
        float[] strengths = new float[3];
        for (int form = 0; form < 3; form++) {
            for (int time = 0; time < 100; time++) {
                strengths[form] = Float.intBitsToFloat(school.correct(0, form, Schools.EXPLICIT));
            }
        }
        float best = -1f;
        int bestForm = TongueSchool.NONE;
        for (int form = 0; form < 3; form++) {
            float before = strengths[form];
            strengths[form] = Schools.grown(before, form == 0 ? 0.5f : 0.25f);
            float sum = 0f + strengths[0] + strengths[1] + strengths[2];
            strengths[form] = before;
            if (sum > best) {
                best = sum;
                bestForm = form;
            }
        }
        planIs(school, 0, bestForm);
        totalIs(school, 0, 1, best);
    }

    @Holds({READY_IN_TURN, "Nothing is taught ahead of what it needs."})
    static void p30_plan_hasFormsThatBecomeReadyOnTheWay() {
        School school = Schools.with(1, 1);
        school.form(1);
        school.transfer(0, 1, 1);
        school.lesson(0, 0);
        school.lesson(0, 0);
        planIs(school, 0, 0);
        planIs(school, 0, 0, 1);
        planIs(school, 0, 0, 1, 1);
        totalIs(school, 0, 2, 0.578125f + 0.5f);
        totalIs(school, 0, 3, 0.578125f + 0.75f);
    }

    @Holds(READY_IN_TURN)
    static void p30_plan_aChainOfThreeNeedsThreeLessons() {
        School school = Schools.with(1, 1);
        school.form(1);
        school.form(2);
        for (int form = 0; form < 3; form++) {
            school.transfer(0, form, 1);
        }
        planIs(school, 0, 0);
        planIs(school, 0, 0, 1);
        planIs(school, 0, 0, 1, 2);
        totalIs(school, 0, 3, 1.5f);
    }

    @Holds({READY_IN_TURN, "A FORM is KNOWN to a LEARNER, if the strength is at least 0.5f"})
    static void p30_plan_needsAtHalfAreEnoughAndJustBelowAreNot() {
        School below = Schools.justBelowHalf(2);
        below.transfer(0, 1, 1);
        planIs(below, 0, 0);
        totalIs(below, 0, 1, Schools.grown(Schools.BELOW_HALF, 0.25f));
        School at = Schools.atHalf(2);
        at.transfer(0, 1, 1);
        planIs(at, 0, 1);
        totalIs(at, 0, 1, 1f);
    }

    @Holds(GREATEST)
    static void p30_plan_mayBeginWithTheLesserGain() {
        School school = Schools.with(2, 1);
        school.form(2);
        school.transfer(0, 1, -1);
        school.transfer(0, 2, 1);
        for (int time = 0; time < 4; time++) {
            school.correct(0, 1, Schools.EXPLICIT);
        }
        school.lesson(0, 1);
        school.lesson(0, 0);
        Check.same("not KNOWN yet", 0, school.level(0));
        planIs(school, 0, 0);
        planIs(school, 0, 1, 2);
        planIs(school, 0, 1, 2, 2);
    }

    @Holds({JUST_BEGUN, READY_IN_TURN})
    static void p30_plan_isOfAWholeDayWhateverWasGiven() {
        School school = Schools.with(2, 1);
        for (int time = 0; time < 3; time++) {
            school.lesson(0, 0);
            school.correct(0, 0, Schools.EXPLICIT);
        }
        Check.badState(school, () -> school.lesson(0, 1));
        Check.same("HUSHED", true, school.isHushed(0));
        planIs(school, 0, 1, 1, 1);
    }

    @Holds({GREATEST, "but by that times 0.5f, if it is a FOSSIL"})
    static void p30_plan_fossilsGrowByHalf() {
        School school = Schools.with(2, 1);
        Schools.makeFossil(school, 0, 0);
        planIs(school, 0, 1);
        planIs(school, 0, 1, 1);
        planIs(school, 0, 1, 1, 1);
        totalIs(school, 0, 1, 0.25f);
    }

    @Holds({NO_PLAN, OR_NONE})
    static void p30_plan_isNoneWithoutForms() {
        School school = Schools.with(0, 2);
        planIs(school, 0, TongueSchool.NONE);
        planIs(school, 1, TongueSchool.NONE, TongueSchool.NONE);
        planIs(school, 0, TongueSchool.NONE, TongueSchool.NONE, TongueSchool.NONE);
        school.form(0);
        planIs(school, 0, 0, 0, 0);
    }

    @Holds({OR_NONE, READY_IN_TURN})
    static void p30_plan_ofOneFormIsThatForm() {
        School school = Schools.with(1, 1);
        planIs(school, 0, 0);
        planIs(school, 0, 0, 0);
        planIs(school, 0, 0, 0, 0);
    }

    @Holds({BAD_LESSONS_OR_TURN, LESSONS})
    static void p30_lessons_are1To3() {
        for (int forms = 0; forms <= 12; forms += 12) {
            School school = Schools.with(forms, 1);
            Check.badBeyond(school, 1, 3, lessons -> school.plan(0, lessons, 0));
        }
    }

    @Holds({BAD_LESSONS_OR_TURN, TURN})
    static void p30_turn_is0ToLessThanLessons() {
        for (int forms = 0; forms <= 12; forms += 12) {
            School school = Schools.with(forms, 1);
            for (int lessons = 1; lessons <= 3; lessons++) {
                int many = lessons;
                Check.badBeyond(school, 0, lessons - 1, turn -> school.plan(0, many, turn));
            }
        }
    }

    @Holds(BAD_LESSONS_OR_TURN)
    static void p30_turn_withLessonsThatAreOutOfRangeToo() {
        School school = Schools.with(2, 1);
        Check.badArgument(school, () -> school.plan(0, 4, 3), () -> school.plan(0, 0, -1), () -> school.plan(0, 0, 0),
                () -> school.plan(0, Integer.MAX_VALUE, Integer.MAX_VALUE - 1),
                () -> school.plan(0, Integer.MIN_VALUE, Integer.MIN_VALUE));
    }

    @Holds(NO_LEARNER)
    static void p30_plan_ofNoSuchLearnerIsRefused() {
        for (int learners = 0; learners <= 6; learners += 3) {
            School school = Schools.with(1, learners);
            Check.noSuchBeyond(school, learners, learner -> school.plan(learner, 1, 0));
        }
    }

    @Holds({FIRST_NAMED, NO_LEARNER, BAD_LESSONS_OR_TURN})
    static void p30_order_noSuchLearnerComesAheadOfBadLessonsAndTurn() {
        School school = Schools.with(1, 1);
        Check.noSuch(school, () -> school.plan(1, 0, 0), () -> school.plan(-1, 4, 0), () -> school.plan(6, 1, 1),
                () -> school.plan(1, 3, -1), () -> school.plan(1, 4, 4));
    }

    // ---- 31: total

    @Holds({OR_NOW, GREATEST})
    static void p31_total_isThatOfThePlan() {
        School school = Schools.with(3, 1);
        totalIs(school, 0, 1, 0.25f);
        totalIs(school, 0, 2, 0.5f);
        totalIs(school, 0, 3, 0.75f);
        school.transfer(0, 1, 1);
        totalIs(school, 0, 1, 0.5f);
        totalIs(school, 0, 2, 0.75f);
        totalIs(school, 0, 3, 1f);
    }

    @Holds({OR_NOW, NO_PLAN})
    static void p31_total_withoutAPlanIsThatOfNow() {
        School school = Schools.with(0, 1);
        for (int lessons = 1; lessons <= 3; lessons++) {
            Check.same("total", 0, school.total(0, lessons));
        }
    }

    @Holds({SUM, "in the order in which it is told"})
    static void p31_total_addsFromTheForm0On() {
        School school = Schools.with(12, 1);
        float[] strengths = new float[12];
        for (int form = 0; form < 12; form++) {
            for (int time = 0; time <= form; time++) {
                school.correct(0, form, Schools.EXPLICIT);
            }
            school.pass(1 + 2 * form);
        }
        for (int form = 0; form < 12; form++) {
            strengths[form] = Schools.strength(school, 0, form);
        }
        int first = school.plan(0, 1, 0);
        strengths[first] = Schools.grown(strengths[first], 0.25f);
        float sum = 0f;
        float turned = 0f;
        double exact = 0;
        for (int form = 0; form < 12; form++) {
            sum = sum + strengths[form];
            turned = turned + strengths[11 - form];
            exact = exact + strengths[form];
        }
        Check.differ("the sum from the other end", sum, turned);
        Check.differ("the sum of doubles", sum, (float) exact);
        totalIs(school, 0, 1, sum);
    }

    @Holds({LESSONS, BAD_LESSONS})
    static void p31_lessons_are1To3() {
        for (int forms = 0; forms <= 12; forms += 12) {
            School school = Schools.with(forms, 1);
            Check.badBeyond(school, 1, 3, lessons -> school.total(0, lessons));
        }
    }

    @Holds(NO_LEARNER)
    static void p31_total_ofNoSuchLearnerIsRefused() {
        for (int learners = 0; learners <= 6; learners += 3) {
            School school = Schools.with(1, learners);
            Check.noSuchBeyond(school, learners, learner -> school.total(learner, 1));
        }
    }

    @Holds({FIRST_NAMED, NO_LEARNER, BAD_LESSONS})
    static void p31_order_noSuchLearnerComesAheadOfBadLessons() {
        School school = Schools.with(1, 1);
        Check.noSuch(school, () -> school.total(1, 0), () -> school.total(-1, 4), () -> school.total(6, -1));
    }

    // ---- 32: totalAnew

    @Holds(ANEW)
    static void p32_totalAnew_needsNoOtherCallAheadOfIt() {
        School school = Schools.with(2, 2);
        school.transfer(0, 1, 1);
        Check.bits("one lesson", 0.5f, school.totalAnew(0, 1));
        Check.bits("two lessons", 0.75f, school.totalAnew(0, 2));
        Check.bits("three lessons", 1f, school.totalAnew(0, 3));
        school.lesson(0, 1);
        school.transfer(0, 1, -1);
        Check.bits("as it is then", 0.75f, school.totalAnew(0, 1));
        Check.bits("of another LEARNER", 0.25f, school.totalAnew(1, 1));
    }

    @Holds({ANEW, NO_PLAN})
    static void p32_totalAnew_withoutAPlanIsThatOfNow() {
        School school = Schools.with(0, 1);
        for (int lessons = 1; lessons <= 3; lessons++) {
            Check.same("totalAnew", 0, school.totalAnew(0, lessons));
        }
    }

    @Holds({ANEW, LESSONS})
    static void p32_totalAnew_isTheSameOfAFullSchool() {
        School school = new School();
        for (int form = 0; form < 12; form++) {
            school.form(form < 3 ? 0 : 1 << form % 3);
            school.transfer(0, form, form % 3 - 1);
        }
        school.learner(0);
        for (int day = 0; day < 12; day++) {
            for (int lessons = 1; lessons <= 3; lessons++) {
                Check.same("total", school.total(0, lessons), school.totalAnew(0, lessons));
            }
            for (int turn = 0; turn < 3; turn++) {
                school.lesson(0, school.plan(0, 3 - turn, 0));
            }
            school.pass(1);
        }
    }

    @Holds(ANEW)
    static void p32_totalAnew_isWhatTheLessonsOfThePlanComeTo() {
        School school = Schools.with(2, 1);
        school.form(1);
        school.form(3);
        int[] row = {school.plan(0, 3, 0), school.plan(0, 3, 1), school.plan(0, 3, 2)};
        int total = school.totalAnew(0, 3);
        for (int form : row) {
            school.lesson(0, form);
        }
        float sum = 0f;
        for (int form = 0; form < 4; form++) {
            sum = sum + Schools.strength(school, 0, form);
        }
        Check.bits("total", sum, total);
    }

    @Holds({LESSONS, BAD_LESSONS})
    static void p32_lessons_are1To3() {
        for (int forms = 0; forms <= 12; forms += 12) {
            School school = Schools.with(forms, 1);
            Check.badBeyond(school, 1, 3, lessons -> school.totalAnew(0, lessons));
        }
    }

    @Holds(NO_LEARNER)
    static void p32_totalAnew_ofNoSuchLearnerIsRefused() {
        for (int learners = 0; learners <= 6; learners += 3) {
            School school = Schools.with(1, learners);
            Check.noSuchBeyond(school, learners, learner -> school.totalAnew(learner, 1));
        }
    }

    @Holds({FIRST_NAMED, NO_LEARNER, BAD_LESSONS})
    static void p32_order_noSuchLearnerComesAheadOfBadLessons() {
        School school = Schools.with(1, 1);
        Check.noSuch(school, () -> school.totalAnew(1, 0), () -> school.totalAnew(-1, 4), () -> school.totalAnew(6, -1));
    }
}
