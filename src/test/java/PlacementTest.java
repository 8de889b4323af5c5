/** Promises 16, 17, 26 and 27. */
final class PlacementTest {
    private static final String NO_LEARNER = "Throws `IndexOutOfBoundsException` if there is no such LEARNER";
    private static final String NO_ITEM = "Throws `IndexOutOfBoundsException` if there is no such ITEM";
    private static final String BAD_EIGHTHS = "Throws `IllegalArgumentException` if eighths is out of range";
    private static final String TWELVE_ITEMS = "Throws `IllegalStateException` if there are 12";
    private static final String NONE_TO_ASK = "Throws `IllegalStateException` if there is none to ask";
    private static final String FIRST_NAMED = "the one that is named first in the throws clause is thrown";
    private static final String DIFFICULTY = "- `eighths`: its difficulty times 8: -64 to 64";
    private static final String NOT_ASKED = "of those that the LEARNER was not asked";
    private static final String LEAST_DISTANCE =
            "have the least distance, which is d - a, or a - d if that is below 0f";
    private static final String LOWEST = "if that is below 0f; of several the lowest.";
    private static final String RIGHT =
            "If it is answered rightly, the ability becomes a + step, and then the difficulty d - 0.125f";
    private static final String WRONG = "otherwise a - step, and d + 0.125f";
    private static final String STEP = "then the step becomes step * 0.75f";
    private static final String AT_FIRST = "Of each LEARNER there are an ability, 0f at first, and a step, 1f at first.";

    private PlacementTest() {
    }

    private static School withItems(int... eighths) {
        School school = Schools.with(0, 3);
        for (int each : eighths) {
            school.item(each);
        }
        return school;
    }

    // ---- 16: item

    @Holds({"Adds an ITEM.", "Returns its number.", "ITEMS are numbered from 0, at most 12"})
    static void p16_item_numbersFrom0AndThe12thIs11() {
        School school = Schools.with(0, 1);
        for (int item = 0; item < 12; item++) {
            Check.same("item", item, school.item(item - 6));
        }
        Check.bits("difficulty of the 12th", 0.625f, school.difficulty(11));
    }

    @Holds(TWELVE_ITEMS)
    static void p16_item_the13thIsRefused() {
        School school = withItems(0, 1, 2, 3, 4, 5, 6, 7, 8, 9, 10, 11);
        Check.badState(school, () -> school.item(0), () -> school.item(-64), () -> school.item(64));
        Check.noSuch(school, () -> school.difficulty(12));
    }

    @Holds({DIFFICULTY, BAD_EIGHTHS})
    static void p16_eighths_areMinus64To64() {
        School school = withItems();
        Check.badBeyond(school, -64, 64, eighths -> school.item(eighths));
        Check.same("the least", 0, school.item(-64));
        Check.same("the greatest", 1, school.item(64));
        Check.bits("the least", -8f, school.difficulty(0));
        Check.bits("the greatest", 8f, school.difficulty(1));
    }

    @Holds({FIRST_NAMED, BAD_EIGHTHS, TWELVE_ITEMS})
    static void p16_order_badEighthsComeAheadOfTooManyItems() {
        School school = withItems(0, 1, 2, 3, 4, 5, 6, 7, 8, 9, 10, 11);
        Check.badBeyond(school, -64, 64, eighths -> school.item(eighths));
    }

    // ---- 17: answer

    @Holds({"A LEARNER answers the ITEM to ask.", "Returns the ITEM.", LEAST_DISTANCE, NOT_ASKED})
    static void p17_answer_isOfTheNearestItem() {
        School school = withItems(16, -3, 4, 40);
        Check.same("nearest to 0f", 1, school.answer(0, true));
        Check.same("nearest to 1f", 2, school.answer(0, true));
        Check.same("nearest to 1.75f", 0, school.answer(0, false));
        Check.same("the last", 3, school.answer(0, false));
    }

    @Holds({RIGHT, WRONG, STEP, AT_FIRST})
    static void p17_answer_movesTheAbilityAndTheDifficulty() {
        School school = withItems(0, 0);
        school.answer(0, true);
        Check.bits("ability", 1f, school.ability(0));
        Check.bits("easier", -0.125f, school.difficulty(0));
        school.answer(0, false);
        Check.bits("ability", 0.25f, school.ability(0));
        Check.bits("harder", 0.125f, school.difficulty(1));
        Check.bits("no more than before", -0.125f, school.difficulty(0));
    }

    @Holds({STEP, "each +, - and * is done as floats, one behind the other"})
    static void p17_answer_twelveStepsAreFloats() {
        School school = withItems(0, 0, 0, 0, 0, 0, 0, 0, 0, 0, 0, 0);
        float ability = 0f;
        float step = 1f;
        for (int item = 0; item < 12; item++) {
            boolean isRight = item % 3 != 1;
            Check.same("item", item, school.answer(0, isRight));
            ability = isRight ? ability + step : ability - step;
            step = step * 0.75f;
            Check.bits("ability", ability, school.ability(0));
            Check.bits("difficulty", isRight ? -0.125f : 0.125f, school.difficulty(item));
        }
    }

    @Holds({LOWEST, LEAST_DISTANCE})
    static void p17_answer_ofSeveralAtOneDistanceIsTheLowest() {
        School same = withItems(8, 0, 0, 0);
        Check.same("of the same difficulty", 1, same.answer(0, true));
        School above = withItems(8, -8);
        Check.same("above and below", 0, above.answer(0, true));
        School below = withItems(-8, 8);
        Check.same("below and above", 0, below.answer(0, true));
        School further = withItems(9, 8, -8);
        Check.same("behind one that is further", 1, further.answer(0, true));
    }

    @Holds({LOWEST, LEAST_DISTANCE})
    static void p17_answer_atOneDistanceFromAnAbilityThatIsNot0() {
        School school = withItems(0, 24, -8);
        Check.same("nearest to 0f", 0, school.answer(0, true));
        Check.same("both at 2f from 1f", 1, school.answer(0, true));
        School turned = withItems(0, -8, 24);
        Check.same("nearest to 0f", 0, turned.answer(0, true));
        Check.same("both at 2f from 1f", 1, turned.answer(0, true));
    }

    @Holds({NOT_ASKED, NONE_TO_ASK})
    static void p17_answer_withNoneLeftToAskIsRefused() {
        School school = withItems(3, -3);
        school.answer(0, true);
        school.answer(0, true);
        float ability = Float.intBitsToFloat(school.ability(0));
        Check.badState(school, () -> school.answer(0, true), () -> school.answer(0, false));
        Check.bits("ability", ability, school.ability(0));
        Check.same("of another LEARNER", 0, school.answer(1, true));
    }

    @Holds(NONE_TO_ASK)
    static void p17_answer_withoutItemsIsRefused() {
        School school = withItems();
        Check.badState(school, () -> school.answer(0, true), () -> school.answer(2, false));
        school.item(5);
        Check.same("the first ITEM", 0, school.answer(0, false));
        Check.bits("by the first step", -1f, school.ability(0));
    }

    @Holds(NONE_TO_ASK)
    static void p17_answer_theTwelfthIsAnsweredAndNoMore() {
        School school = withItems(1, 1, 1, 1, 1, 1, 1, 1, 1, 1, 1, 1);
        for (int time = 0; time < 12; time++) {
            Check.same("item", time, school.answer(0, false));
        }
        Check.badState(school, () -> school.answer(0, false));
    }

    @Holds({NOT_ASKED, NONE_TO_ASK})
    static void p17_answer_ofAnItemThatCameLater() {
        School school = withItems(3);
        school.answer(0, true);
        Check.badState(school, () -> school.answer(0, false));
        school.item(5);
        Check.same("item", 1, school.answer(0, false));
        Check.bits("by the second step", 0.25f, school.ability(0));
    }

    @Holds("each with a difficulty, one for all LEARNERS")
    static void p17_answer_difficultiesDriftForAllLearners() {
        School school = withItems(1, -2);
        Check.same("item", 0, school.answer(0, false));
        Check.bits("harder", 0.25f, school.difficulty(0));
        Check.bits("the other stays", -0.25f, school.difficulty(1));
        Check.same("at one distance now", 0, school.answer(1, false));
        Check.bits("harder", 0.375f, school.difficulty(0));
        Check.same("the other is nearer now", 1, school.answer(2, true));
        Check.bits("easier", -0.375f, school.difficulty(1));
    }

    @Holds(AT_FIRST)
    static void p17_answer_eachLearnerHasAnAbilityAndAStep() {
        School school = withItems(0, 0);
        school.answer(0, true);
        school.answer(1, false);
        school.answer(0, true);
        Check.bits("the first", 1.75f, school.ability(0));
        Check.bits("the second", -1f, school.ability(1));
        Check.bits("the third", 0f, school.ability(2));
        school.answer(1, true);
        Check.bits("the second", -0.25f, school.ability(1));
    }

    @Holds({NO_LEARNER, FIRST_NAMED, NONE_TO_ASK})
    static void p17_order_noSuchLearnerComesAheadOfNoneToAsk() {
        for (int learners = 0; learners <= 6; learners += 3) {
            School without = Schools.with(0, learners);
            Check.noSuchBeyond(without, learners, learner -> without.answer(learner, true));
            School school = Schools.with(0, learners);
            school.item(0);
            Check.noSuchBeyond(school, learners, learner -> school.answer(learner, false));
        }
    }

    // ---- 26: difficulty

    @Holds({"Returns the difficulty of an ITEM.", "A float is told as Float.floatToIntBits tells it."})
    static void p26_difficulty_isTheEighths() {
        School school = withItems(-64, -63, -9, -8, -1, 0, 1, 7, 8, 9, 63, 64);
        int[] eighths = {-64, -63, -9, -8, -1, 0, 1, 7, 8, 9, 63, 64};
        for (int item = 0; item < 12; item++) {
            Check.bits("difficulty", eighths[item] / 8f, school.difficulty(item));
        }
    }

    @Holds("A float is told as Float.floatToIntBits tells it.")
    static void p26_difficulty_comesTo0WithoutASign() {
        School school = withItems(1, -1);
        school.answer(0, true);
        school.answer(0, false);
        Check.same("from above", 0, school.difficulty(0));
        Check.same("from below", 0, school.difficulty(1));
    }

    @Holds(NO_ITEM)
    static void p26_difficulty_ofNoSuchItemIsRefused() {
        School school = withItems();
        for (int items = 0; items <= 12; items++) {
            if (items % 4 == 0) {
                Check.noSuchBeyond(school, items, item -> school.difficulty(item));
            }
            if (items < 12) {
                school.item(items);
            }
        }
    }

    // ---- 27: ability

    @Holds({"Returns the ability of a LEARNER.", AT_FIRST})
    static void p27_ability_is0AtFirst() {
        School school = withItems(0);
        Check.same("at first", 0, school.ability(2));
        school.answer(2, false);
        Check.bits("below 0f", -1f, school.ability(2));
        Check.same("another LEARNER", 0, school.ability(1));
    }

    @Holds(NO_LEARNER)
    static void p27_ability_ofNoSuchLearnerIsRefused() {
        for (int learners = 0; learners <= 6; learners += 3) {
            School school = Schools.with(0, learners);
            Check.noSuchBeyond(school, learners, learner -> school.ability(learner));
        }
    }
}
