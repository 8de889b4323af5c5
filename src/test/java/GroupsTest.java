/** Promises 28 and 29. */
final class GroupsTest {
    private GroupsTest() {
    }

    /** A LEARNER for each level, who is at it. */
    private static TongueSchool withLevels(int... levels) {
        TongueSchool school = Schools.with(12, levels.length);
        for (int learner = 0; learner < levels.length; learner++) {
            for (int form = 0; form < levels[learner]; form++) {
                for (int time = 0; time < 6; time++) {
                    school.correct(learner, form, TongueSchool.EXPLICIT);
                }
            }
            Check.same("level", levels[learner], school.level(learner));
        }
        return school;
    }

    static void p28_alikeLevelsStandTogether() {
        TongueSchool school = withLevels(1, 5, 1, 6);
        Check.same("group", 5, school.group(15));
        Check.same("cost", 1, school.cost(15));
        Check.same("group", 4, school.group(14));
        Check.same("cost", 1, school.cost(14));
    }

    static void p28_ofSeveralTheLowestIsFirst() {
        TongueSchool school = withLevels(2, 2, 2, 2);
        Check.same("all in the second group", 0, school.group(15));
        Check.same("of three", 0, school.group(7));
        Check.same("of one", 0, school.group(8));
        Check.same("of none", 0, school.group(0));
        TongueSchool apart = withLevels(3, 1);
        Check.same("one each", 1, apart.group(3));
        Check.same("cost", 0, apart.cost(3));
    }

    static void p28_atMostFourInAGroup() {
        TongueSchool school = withLevels(2, 2, 2, 2, 2, 2);
        Check.same("two and four", 3, school.group(63));
        Check.same("one and four", 1, school.group(31));
        Check.same("one and four", 2, school.group(62));
        TongueSchool odd = withLevels(1, 1, 1, 1, 1, 4);
        Check.same("five alike", 3, odd.group(63));
        Check.same("cost", 3, odd.cost(63));
        Check.same("four alike", 15, odd.group(47));
        Check.same("cost", 0, odd.cost(47));
    }

    static void p28_groupRefuses() {
        TongueSchool school = withLevels(1, 2);
        Check.badArgument(school, () -> school.group(4));
        Check.badArgument(school, () -> school.group(7));
        Check.badArgument(school, () -> school.group(-1));
        Check.badArgument(school, () -> school.group(Integer.MIN_VALUE));
        Check.badArgument(school, () -> school.group(Integer.MAX_VALUE));
        TongueSchool empty = new TongueSchool();
        Check.same("of none", 0, empty.group(0));
        Check.badArgument(empty, () -> empty.group(1));
    }

    static void p29_costOfTheBestParting() {
        TongueSchool school = withLevels(0, 12, 5, 7);
        Check.same("of all", 7, school.cost(15));
        Check.same("of two", 0, school.cost(3));
        Check.same("of one", 0, school.cost(2));
        Check.same("of none", 0, school.cost(0));
        Check.same("of three", 2, school.cost(14));
        Check.same("of three", 5, school.cost(7));
    }

    static void p29_costRefuses() {
        TongueSchool school = withLevels(1, 2);
        Check.badArgument(school, () -> school.cost(4));
        Check.badArgument(school, () -> school.cost(5));
        Check.badArgument(school, () -> school.cost(-1));
        Check.badArgument(school, () -> school.cost(Integer.MIN_VALUE));
        Check.badArgument(school, () -> school.cost(64));
    }
}
