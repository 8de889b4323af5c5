/** Schools that tests begin with, and how strengths come to be just so. */
final class Schools {
    static final int NEUTRAL = 0, HELPED = 1, HINDERED = 2;
    static final float BELOW_HALF = Math.nextDown(0.5f);
    static final float BELOW_QUARTER = Math.nextDown(0.25f);
    static final float BELOW_THREE_QUARTERS = Math.nextDown(0.75f);

    private Schools() {
    }

    /** FORMS without NEEDS and LEARNERS of the TONGUE 0. */
    static TongueSchool with(int forms, int learners) {
        TongueSchool school = new TongueSchool();
        for (int form = 0; form < forms; form++) {
            school.form(0);
        }
        for (int learner = 0; learner < learners; learner++) {
            school.learner(0);
        }
        return school;
    }

    /** The TONGUE 0 does neither, 1 HELPS every FORM, 2 HINDERS every FORM; a LEARNER of each. */
    static TongueSchool withTongues(int forms) {
        TongueSchool school = with(forms, 0);
        for (int form = 0; form < forms; form++) {
            school.transfer(HELPED, form, 1);
            school.transfer(HINDERED, form, -1);
        }
        school.learner(NEUTRAL);
        school.learner(HELPED);
        school.learner(HINDERED);
        return school;
    }

    static float grown(float strength, float gain) {
        return strength + (1f - strength) * gain;
    }

    /** One lesson of a FORM that the TONGUE HELPS makes 0f to just 0.5f. */
    static void makeKnown(TongueSchool school, int learner, int form) {
        for (int tongue = 0; tongue < 4; tongue++) {
            school.transfer(tongue, form, 1);
        }
        school.lesson(learner, form);
        for (int tongue = 0; tongue < 4; tongue++) {
            school.transfer(tongue, form, 0);
        }
    }

    static void makeFossil(TongueSchool school, int learner, int form) {
        for (int time = 0; time < 3; time++) {
            school.talk(learner, 1 << form);
        }
    }

    /** Of the only LEARNER, of the FORM 0: these steps were found by a search. */
    static TongueSchool atJustBelowHalf(int forms) {
        return walked(forms, 1, 9, 11, 5, 7, 12, 2, 2);
    }

    static TongueSchool atJustBelowQuarter(int forms) {
        return walked(forms, 5, 5, 12, 11, 11, 2, 11, 2, 11);
    }

    static TongueSchool atJustBelowThreeQuarters(int forms) {
        return walked(forms, 1, 6, 6, 6, 9, 11, 12, 7, 12, 12, 1);
    }

    /** 1 to 9 is abroad with so many friends, 11 a day that passes, 12 a lesson. */
    private static TongueSchool walked(int forms, int... steps) {
        TongueSchool school = with(1, 1);
        for (int step : steps) {
            if (step == 12) {
                school.lesson(0, 0);
            } else if (step == 11) {
                school.pass(1);
            } else {
                school.abroad(0, step);
            }
        }
        for (int form = 1; form < forms; form++) {
            school.form(form == 1 ? 1 : 0);
        }
        return school;
    }
}
