/** Promises 30 to 32. */
final class PlanTest {
    private PlanTest() {
    }

    private static void planIs(TongueSchool school, int learner, int... forms) {
        for (int turn = 0; turn < forms.length; turn++) {
            Check.same("turn " + turn + " of " + forms.length, forms[turn], school.plan(learner, forms.length, turn));
        }
    }

    private static void totalIs(TongueSchool school, int learner, int lessons, float want) {
        Check.bits("total", want, school.total(learner, lessons));
        Check.bits("totalAnew", want, school.totalAnew(learner, lessons));
    }

    static void p30_aPlanTakesTheGreatestGains() {
        TongueSchool school = Schools.with(3, 1);
        school.transfer(0, 1, 1);
        school.transfer(0, 2, -1);
        planIs(school, 0, 1);
        planIs(school, 0, 0, 1);
        planIs(school, 0, 0, 1, 1);
        school.lesson(0, 1);
        school.lesson(0, 1);
        planIs(school, 0, 0);
        planIs(school, 0, 0, 0);
        planIs(school, 0, 0, 0, 0);
    }

    static void p30_ofSeveralTheLowerFormComesFirst() {
        TongueSchool school = Schools.with(4, 1);
        planIs(school, 0, 0);
        planIs(school, 0, 0, 1);
        planIs(school, 0, 0, 1, 2);
    }

    static void p30_aPlanUnlocksWhatIsNeeded() {
        TongueSchool school = Schools.with(1, 1);
        school.form(1);
        school.transfer(0, 1, 1);
        school.lesson(0, 0);
        school.lesson(0, 0);
        planIs(school, 0, 0);
        planIs(school, 0, 0, 1);
        planIs(school, 0, 0, 1, 1);
        totalIs(school, 0, 2, 0.578125f + 0.5f);
        totalIs(school, 0, 3, 0.578125f + 0.75f);
    }

    static void p30_aPlanMayBeginWithTheLesserGain() {
        TongueSchool school = Schools.with(2, 1);
        school.form(2);
        school.transfer(0, 1, -1);
        school.transfer(0, 2, 1);
        for (int time = 0; time < 4; time++) {
            school.correct(0, 1, TongueSchool.EXPLICIT);
        }
        school.lesson(0, 1);
        school.lesson(0, 0);
        Check.same("not KNOWN yet", 0, school.level(0));
        planIs(school, 0, 0);
        planIs(school, 0, 1, 2);
        planIs(school, 0, 1, 2, 2);
    }

    static void p30_theDayOfAPlanHasJustBegun() {
        TongueSchool school = Schools.with(2, 1);
        for (int time = 0; time < 3; time++) {
            school.lesson(0, 0);
            school.correct(0, 0, TongueSchool.EXPLICIT);
        }
        Check.badState(school, () -> school.lesson(0, 1));
        planIs(school, 0, 1, 1, 1);
    }

    static void p30_fossilsAreHarder() {
        TongueSchool school = Schools.with(2, 1);
        Schools.makeFossil(school, 0, 0);
        planIs(school, 0, 1);
        planIs(school, 0, 1, 1);
        planIs(school, 0, 1, 1, 1);
        totalIs(school, 0, 1, 0.25f);
    }

    /** Every row comes to the same TOTAL, whatever was planned for others ahead of it. */
    static void p30_whereNothingGrowsTheLowestFormStays() {
        TongueSchool school = Schools.with(2, 2);
        school.transfer(0, 0, 1);
        school.transfer(0, 1, 1);
        for (int form = 0; form < 2; form++) {
            for (int time = 0; time < 180; time++) {
                school.correct(0, form, TongueSchool.EXPLICIT);
            }
            for (int time = 0; time < 3; time++) {
                school.lesson(0, form);
            }
            Check.bits("strength", 1f, school.strength(0, form));
            school.keep(0);
            school.pass(1);
            school.back(0);
        }
        planIs(school, 1, 0, 0, 1);
        planIs(school, 0, 0, 0, 0);
        totalIs(school, 0, 3, 2f);
        school.correct(1, 0, TongueSchool.EXPLICIT);
        planIs(school, 1, 1);
        planIs(school, 0, 0);
        totalIs(school, 0, 1, 2f);
    }

    /** Near 1f the gains are so small that only the floats of the sum decide what is greatest. */
    static void p30_totalsAreComparedAsFloats() {
        TongueSchool school = Schools.with(3, 1);
        school.transfer(0, 0, 1);
        for (int form = 0; form < 3; form++) {
            for (int time = 0; time < 120; time++) {
                school.correct(0, form, TongueSchool.EXPLICIT);
            }
        }
        float[] strengths = new float[3];
        for (int form = 0; form < 3; form++) {
            strengths[form] = Float.intBitsToFloat(school.strength(0, form));
        }
        float best = -1f;
        int bestForm = TongueSchool.NONE;
        for (int form = 0; form < 3; form++) {
            float before = strengths[form];
            strengths[form] = Schools.grown(before, form == 0 ? 0.5f : 0.25f);
            float sum = 0f + strengths[0] + strengths[1] + strengths[2];
            strengths[form] = before;
            if (sum > best) {
                best = sum;
                bestForm = form;
            }
        }
        planIs(school, 0, bestForm);
        totalIs(school, 0, 1, best);
    }

    static void p30_withoutFormsThereIsNone() {
        TongueSchool school = Schools.with(0, 1);
        planIs(school, 0, -1);
        planIs(school, 0, -1, -1);
        planIs(school, 0, -1, -1, -1);
    }

    static void p30_planRefuses() {
        for (int forms = 0; forms < 2; forms++) {
            TongueSchool school = Schools.with(forms, 1);
            Check.noSuch(school, () -> school.plan(1, 1, 0));
            Check.noSuch(school, () -> school.plan(-1, 0, 0));
            Check.noSuch(school, () -> school.plan(6, 4, 4));
            Check.badArgument(school, () -> school.plan(0, 0, 0));
            Check.badArgument(school, () -> school.plan(0, 4, 0));
            Check.badArgument(school, () -> school.plan(0, 4, 3));
            Check.badArgument(school, () -> school.plan(0, 1, 1));
            Check.badArgument(school, () -> school.plan(0, 2, 2));
            Check.badArgument(school, () -> school.plan(0, 3, 3));
            Check.badArgument(school, () -> school.plan(0, 1, -1));
            Check.badArgument(school, () -> school.plan(0, -1, -2));
            Check.badArgument(school, () -> school.plan(0, Integer.MAX_VALUE, Integer.MAX_VALUE - 1));
            Check.badArgument(school, () -> school.plan(0, Integer.MIN_VALUE, Integer.MIN_VALUE));
        }
    }

    static void p31_totalIsThatOfThePlan() {
        TongueSchool school = Schools.with(3, 1);
        totalIs(school, 0, 1, 0.25f);
        totalIs(school, 0, 2, 0.5f);
        totalIs(school, 0, 3, 0.75f);
        school.transfer(0, 1, 1);
        totalIs(school, 0, 1, 0.5f);
        totalIs(school, 0, 2, 0.75f);
        totalIs(school, 0, 3, 1f);
    }

    static void p31_totalWithoutAPlanIsThatOfNow() {
        TongueSchool school = Schools.with(0, 1);
        for (int lessons = 1; lessons <= 3; lessons++) {
            totalIs(school, 0, lessons, 0f);
        }
    }

    static void p31_totalAddsFromTheFormZeroOn() {
        TongueSchool school = Schools.with(6, 1);
        float[] strengths = new float[6];
        for (int form = 0; form < 6; form++) {
            for (int time = 0; time <= form; time++) {
                school.correct(0, form, TongueSchool.EXPLICIT);
            }
            school.pass(1 + form);
        }
        for (int form = 0; form < 6; form++) {
            strengths[form] = Float.intBitsToFloat(school.strength(0, form));
        }
        int first = school.plan(0, 1, 0);
        strengths[first] = Schools.grown(strengths[first], 0.25f);
        float sum = 0f;
        for (float strength : strengths) {
            sum = sum + strength;
        }
        totalIs(school, 0, 1, sum);
    }

    static void p31_totalChangesNothing() {
        TongueSchool school = Schools.with(12, 1);
        school.lesson(0, 3);
        school.pass(2);
        String before = Snapshot.of(school);
        for (int lessons = 1; lessons <= 3; lessons++) {
            school.total(0, lessons);
            school.totalAnew(0, lessons);
            school.plan(0, lessons, 0);
        }
        Check.same("what stands", before, Snapshot.of(school));
        school.lesson(0, 0);
        school.lesson(0, 0);
        school.lesson(0, 0);
        Check.same("taught", 9, school.forms(0, 3));
    }

    static void p31_totalRefuses() {
        TongueSchool school = Schools.with(1, 1);
        Check.noSuch(school, () -> school.total(1, 1));
        Check.noSuch(school, () -> school.total(-1, 4));
        Check.badArgument(school, () -> school.total(0, 0));
        Check.badArgument(school, () -> school.total(0, 4));
        Check.badArgument(school, () -> school.total(0, Integer.MIN_VALUE));
        Check.badArgument(school, () -> school.total(0, Integer.MAX_VALUE));
    }

    static void p32_totalAnewRefuses() {
        TongueSchool school = Schools.with(1, 1);
        Check.noSuch(school, () -> school.totalAnew(1, 1));
        Check.noSuch(school, () -> school.totalAnew(-1, 4));
        Check.badArgument(school, () -> school.totalAnew(0, 0));
        Check.badArgument(school, () -> school.totalAnew(0, 4));
        Check.badArgument(school, () -> school.totalAnew(0, Integer.MIN_VALUE));
        Check.badArgument(school, () -> school.totalAnew(0, Integer.MAX_VALUE));
    }

    static void p32_totalAnewNeedsNoOtherCallAheadOfIt() {
        TongueSchool school = Schools.with(2, 2);
        school.transfer(0, 1, 1);
        Check.bits("one lesson", 0.5f, school.totalAnew(0, 1));
        Check.bits("two lessons", 0.75f, school.totalAnew(0, 2));
        Check.bits("three lessons", 1f, school.totalAnew(0, 3));
        school.lesson(0, 1);
        school.transfer(0, 1, -1);
        Check.bits("as it is then", 0.75f, school.totalAnew(0, 1));
        Check.bits("of another LEARNER", 0.25f, school.totalAnew(1, 1));
    }

    static void p32_totalAnewIsTheSameOfAFullSchool() {
        TongueSchool school = new TongueSchool();
        for (int form = 0; form < 12; form++) {
            school.form(form < 3 ? 0 : 1 << form % 3);
            school.transfer(0, form, form % 3 - 1);
        }
        school.learner(0);
        for (int day = 0; day < 12; day++) {
            for (int lessons = 1; lessons <= 3; lessons++) {
                Check.same("total", school.total(0, lessons), school.totalAnew(0, lessons));
            }
            for (int turn = 0; turn < 3; turn++) {
                school.lesson(0, school.plan(0, 3 - turn, 0));
            }
            school.pass(1);
        }
    }

    static void p32_lessonsOfThePlanComeToTheTotal() {
        TongueSchool school = Schools.with(2, 1);
        school.form(1);
        school.form(3);
        int[] row = {school.plan(0, 3, 0), school.plan(0, 3, 1), school.plan(0, 3, 2)};
        int total = school.totalAnew(0, 3);
        for (int form : row) {
            school.lesson(0, form);
        }
        float sum = 0f;
        for (int form = 0; form < 4; form++) {
            sum = sum + Float.intBitsToFloat(school.strength(0, form));
        }
        Check.bits("total", sum, total);
    }
}
