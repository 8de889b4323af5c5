/** Promises 28 and 29. */
final class GroupsTest {
    private static final String BAD_LEARNERS = "Throws `IllegalArgumentException` if learners is out of range";
    private static final String THE_SET = "- `learners`: the set";
    private static final String OTHERS = "a set with others than are there is out of range";
    private static final String PARTED = "A set of LEARNERS is parted into two groups, neither with more than 4";
    private static final String PERHAPS_NONE = "neither with more than 4, perhaps one with none";
    private static final String LOWEST = "of several that whose first group, as bits, is the lowest";
    private static final String LEAST_SUM = "the best parting has the least sum of both COSTS";
    private static final String COST =
            "The COST of a group is the greatest LEVEL in it less the least one, 0 without LEARNERS";
    private static final String SUM = "Returns the sum of both COSTS of the best parting.";
    private static final String FIRST_GROUP = "Returns the first group of the best parting.";

    private GroupsTest() {
    }

    /** A LEARNER for each level, who is at it. */
    private static School withLevels(int... levels) {
        School school = Schools.with(12, levels.length);
        for (int learner = 0; learner < levels.length; learner++) {
            for (int form = 0; form < levels[learner]; form++) {
                Schools.makeKnownUntaught(school, learner, form);
            }
            Check.same("level", levels[learner], school.level(learner));
        }
        return school;
    }

    private static void isParted(School school, int set, int first, int cost) {
        Check.same("group of " + set, first, school.group(set));
        Check.same("cost of " + set, cost, school.cost(set));
    }

    // ---- 28: group

    @Holds({FIRST_GROUP, "Returns as bits.", LEAST_SUM})
    static void p28_group_alikeLevelsStandTogether() {
        School school = withLevels(1, 5, 1, 6);
        isParted(school, 15, 5, 1);
        isParted(school, 14, 4, 1);
        isParted(school, 11, 1, 1);
    }

    @Holds({THE_SET, PERHAPS_NONE})
    static void p28_learners_none() {
        Check.same("without LEARNERS", 0, new School().group(0));
        School school = withLevels(1, 2, 3, 4, 5, 6);
        Check.same("of six", 0, school.group(0));
    }

    @Holds({THE_SET, PERHAPS_NONE, LOWEST})
    static void p28_learners_one() {
        School school = withLevels(1, 2, 3, 4, 5, 6);
        for (int learner = 0; learner < 6; learner++) {
            isParted(school, 1 << learner, 0, 0);
        }
    }

    @Holds({PARTED, LOWEST})
    static void p28_learners_fourAlikeMayStandInOneGroup() {
        School school = withLevels(2, 2, 2, 2, 2, 2);
        isParted(school, 15, 0, 0);
        isParted(school, 60, 0, 0);
        isParted(school, 51, 0, 0);
    }

    @Holds({PARTED, LOWEST})
    static void p28_learners_fiveAlikeAreParted() {
        School school = withLevels(2, 2, 2, 2, 2, 2);
        isParted(school, 31, 1, 0);
        isParted(school, 62, 2, 0);
        isParted(school, 61, 1, 0);
    }

    @Holds({PARTED, LOWEST})
    static void p28_learners_sixAlikeArePartedByTwo() {
        isParted(withLevels(2, 2, 2, 2, 2, 2), 63, 3, 0);
    }

    @Holds({PARTED, LEAST_SUM})
    static void p28_group_fiveAlikeDoNotStandTogetherThoughItWereBest() {
        School school = withLevels(1, 1, 1, 1, 1, 4);
        isParted(school, 63, 3, 3);
        isParted(school, 47, 15, 0);
        School turned = withLevels(4, 1, 1, 1, 1, 1);
        isParted(turned, 63, 3, 3);
        isParted(turned, 61, 1, 0);
    }

    @Holds(PARTED)
    static void p28_group_mayHaveFourItself() {
        isParted(withLevels(1, 1, 1, 1, 3, 4), 63, 15, 1);
        isParted(withLevels(3, 4, 1, 1, 1, 1), 63, 3, 1);
    }

    @Holds(LOWEST)
    static void p28_group_ofSeveralIsTheLowest() {
        School two = withLevels(3, 1);
        isParted(two, 3, 1, 0);
        School three = withLevels(0, 2, 4);
        isParted(three, 7, 1, 2);
    }

    @Holds("A FORM is KNOWN to a LEARNER, if the strength is at least 0.5f")
    static void p28_group_byLevelsAtHalfAndJustBelow() {
        School below = Schools.justBelowHalf(1);
        below.learner(0);
        isParted(below, 3, 0, 0);
        School at = Schools.atHalf(1);
        at.learner(0);
        isParted(at, 3, 1, 0);
    }

    @Holds({BAD_LEARNERS, OTHERS})
    static void p28_learners_withOthersThanAreThereAreRefused() {
        for (int learners = 0; learners <= 6; learners++) {
            School school = Schools.with(1, learners);
            Check.badSets(school, learners, set -> school.group(set));
        }
    }

    // ---- 29: cost

    @Holds({SUM, COST, LEAST_SUM})
    static void p29_cost_isTheLeastSum() {
        School school = withLevels(0, 12, 5, 7);
        Check.same("of all", 7, school.cost(15));
        Check.same("of two", 0, school.cost(3));
        Check.same("of three", 2, school.cost(14));
        Check.same("of three", 5, school.cost(7));
    }

    @Holds(COST)
    static void p29_cost_addsBothGroups() {
        isParted(withLevels(1, 2, 8, 10), 15, 3, 3);
        isParted(withLevels(0, 1, 2, 7, 8, 9), 63, 7, 4);
    }

    @Holds({THE_SET, "0 without LEARNERS"})
    static void p29_learners_none() {
        Check.same("without LEARNERS", 0, new School().cost(0));
        School school = withLevels(12, 2);
        Check.same("of two", 0, school.cost(0));
    }

    @Holds({THE_SET, COST})
    static void p29_learners_oneOrTwoCostNothing() {
        School school = withLevels(12, 2, 7);
        for (int set = 1; set < 7; set++) {
            Check.same("of " + set, 0, school.cost(set));
        }
    }

    @Holds({THE_SET, SUM})
    static void p29_learners_fourFiveAndSix() {
        School school = withLevels(1, 1, 1, 1, 1, 9);
        Check.same("four alike", 0, school.cost(15));
        Check.same("five alike", 0, school.cost(31));
        Check.same("four alike and another", 0, school.cost(47));
        Check.same("five alike and another", 8, school.cost(63));
    }

    @Holds({BAD_LEARNERS, OTHERS})
    static void p29_learners_withOthersThanAreThereAreRefused() {
        for (int learners = 0; learners <= 6; learners++) {
            School school = Schools.with(1, learners);
            Check.badSets(school, learners, set -> school.cost(set));
        }
    }
}
