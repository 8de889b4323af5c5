/** Schools that tests begin with, and how strengths come to be just so. */
final class Schools {
    static final int NEUTRAL = 0, HELPED = 1, HINDERED = 2;
    static final int RECAST = TongueSchool.RECAST, PROMPT = TongueSchool.PROMPT, EXPLICIT = TongueSchool.EXPLICIT;
    static final int KNOWN = 0, READY = 1, FOSSILS = 2, TAUGHT = 3;
    static final float BELOW_QUARTER = Math.nextDown(0.25f);
    static final float BELOW_HALF = Math.nextDown(0.5f);
    static final float BELOW_THREE_QUARTERS = Math.nextDown(0.75f);

    private static final int A_DAY = 11, A_LESSON = 12;

    private Schools() {
    }

    /** FORMS without NEEDS and LEARNERS of the TONGUE 0. */
    static School with(int forms, int learners) {
        School school = new School();
        for (int form = 0; form < forms; form++) {
            school.form(0);
        }
        for (int learner = 0; learner < learners; learner++) {
            school.learner(0);
        }
        return school;
    }

    /** The TONGUE 0 does neither, 1 HELPS every FORM, 2 HINDERS every FORM; a LEARNER of each. */
    static School withTongues(int forms) {
        School school = with(forms, 0);
        for (int form = 0; form < forms; form++) {
            school.transfer(HELPED, form, 1);
            school.transfer(HINDERED, form, -1);
        }
        school.learner(NEUTRAL);
        school.learner(HELPED);
        school.learner(HINDERED);
        return school;
    }

    static float grown(float strength, float gain) {
        return strength + (1f - strength) * gain;
    }

    static float strength(School school, int learner, int form) {
        return Float.intBitsToFloat(school.strength(learner, form));
    }

    /** One lesson of a FORM that the TONGUE 0 HELPS makes 0f to just 0.5f. */
    static void makeKnown(School school, int learner, int form) {
        school.transfer(0, form, 1);
        school.lesson(learner, form);
        school.transfer(0, form, 0);
    }

    /** To be KNOWN without a lesson, by six corrections. */
    static void makeKnownUntaught(School school, int learner, int form) {
        for (int time = 0; time < 6; time++) {
            school.correct(learner, form, EXPLICIT);
        }
    }

    static void makeFossil(School school, int learner, int form) {
        for (int time = 0; time < 3; time++) {
            school.talk(learner, 1 << form);
        }
    }

    static void upset(School school, int learner, int times) {
        for (int time = 0; time < times; time++) {
            school.correct(learner, 0, EXPLICIT);
        }
    }

    /** Of the only LEARNER, of the FORM 0; the FORM 1 NEEDS it. These steps were found by a search. */
    static School justBelowHalf(int forms) {
        return walked(forms, BELOW_HALF, 1, 9, A_DAY, 5, 7, A_LESSON, 2, 2);
    }

    static School justBelowQuarter() {
        return walked(1, BELOW_QUARTER, 5, 5, A_LESSON, A_DAY, A_DAY, 2, A_DAY, 2, A_DAY);
    }

    static School justBelowThreeQuarters(int forms) {
        return walked(forms, BELOW_THREE_QUARTERS, 1, 6, 6, 6, 9, A_DAY, A_LESSON, 7, A_LESSON, A_LESSON, 1);
    }

    static School atQuarter() {
        return walked(1, 0.25f, A_LESSON);
    }

    static School atHalf(int forms) {
        School school = with(1, 1);
        makeKnown(school, 0, 0);
        return withMoreForms(school, forms, 0.5f);
    }

    static School atThreeQuarters(int forms) {
        School school = with(1, 1);
        makeKnown(school, 0, 0);
        makeKnown(school, 0, 0);
        return withMoreForms(school, forms, 0.75f);
    }

    /** 1 to 9 is abroad with so many friends. */
    private static School walked(int forms, float strength, int... steps) {
        School school = with(1, 1);
        for (int step : steps) {
            if (step == A_LESSON) {
                school.lesson(0, 0);
            } else if (step == A_DAY) {
                school.pass(1);
            } else {
                school.abroad(0, step);
            }
        }
        return withMoreForms(school, forms, strength);
    }

    private static School withMoreForms(School school, int forms, float strength) {
        for (int form = 1; form < forms; form++) {
            school.form(form == 1 ? 1 : 0);
        }
        Check.bits("the strength to begin with", strength, school.strength(0, 0));
        return school;
    }
}
