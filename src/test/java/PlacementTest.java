/** Promises 16, 17, 26 and 27. */
final class PlacementTest {
    private PlacementTest() {
    }

    private static TongueSchool withItems(int... eighths) {
        TongueSchool school = Schools.with(0, 3);
        for (int each : eighths) {
            school.item(each);
        }
        return school;
    }

    static void p16_itemsAreNumberedUpToTwelve() {
        TongueSchool school = Schools.with(0, 1);
        for (int item = 0; item < 12; item++) {
            Check.same("item", item, school.item(item - 6));
            Check.bits("difficulty", (item - 6) / 8f, school.difficulty(item));
        }
        Check.badState(school, () -> school.item(0));
        Check.badState(school, () -> school.item(-64));
        Check.badArgument(school, () -> school.item(65));
        Check.badArgument(school, () -> school.item(-65));
    }

    static void p16_eighthsAtTheirEnds() {
        TongueSchool school = withItems(-64, 64, 0);
        Check.bits("the least", -8f, school.difficulty(0));
        Check.bits("the greatest", 8f, school.difficulty(1));
        Check.bits("0", 0f, school.difficulty(2));
        Check.badArgument(school, () -> school.item(65));
        Check.badArgument(school, () -> school.item(-65));
        Check.badArgument(school, () -> school.item(Integer.MAX_VALUE));
        Check.badArgument(school, () -> school.item(Integer.MIN_VALUE));
    }

    static void p17_theNearestItemIsAsked() {
        TongueSchool school = withItems(16, -3, 4, 40);
        Check.same("nearest to 0f", 1, school.answer(0, true));
        Check.bits("ability", 1f, school.ability(0));
        Check.same("nearest to 1f", 2, school.answer(0, true));
        Check.bits("ability", 1.75f, school.ability(0));
        Check.same("nearest to 1.75f", 0, school.answer(0, false));
        Check.bits("ability", 1.75f - 0.5625f, school.ability(0));
        Check.same("the last", 3, school.answer(0, false));
        Check.bits("ability", 1.75f - 0.5625f - 0.421875f, school.ability(0));
        Check.badState(school, () -> school.answer(0, true));
        Check.same("asked of another LEARNER", 2, school.answer(1, true));
    }

    static void p17_ofSeveralTheLowestIsAsked() {
        TongueSchool school = withItems(8, -8, 8, 0, 0);
        Check.same("a tie at 0f", 3, school.answer(0, false));
        Check.same("ability is -1f", 1, school.answer(0, true));
        TongueSchool tie = withItems(8, -8);
        Check.same("above and below", 0, tie.answer(0, true));
        TongueSchool other = withItems(-8, 8);
        Check.same("below and above", 0, other.answer(0, true));
    }

    static void p17_itemsDriftForAllLearners() {
        TongueSchool school = withItems(1, -2);
        Check.same("item", 0, school.answer(0, false));
        Check.bits("harder", 0.25f, school.difficulty(0));
        Check.bits("the other stays", -0.25f, school.difficulty(1));
        Check.same("a tie now", 0, school.answer(1, false));
        Check.bits("harder", 0.375f, school.difficulty(0));
        Check.same("the other is nearer now", 1, school.answer(2, true));
        Check.bits("easier", -0.375f, school.difficulty(1));
        Check.bits("ability", 1f, school.ability(2));
        Check.bits("ability", -1f, school.ability(1));
    }

    static void p17_twelveStepsAreFloats() {
        TongueSchool school = withItems(0, 0, 0, 0, 0, 0, 0, 0, 0, 0, 0, 0);
        float ability = 0f;
        float step = 1f;
        for (int item = 0; item < 12; item++) {
            boolean isRight = item % 3 != 1;
            Check.same("item", item, school.answer(0, isRight));
            ability = isRight ? ability + step : ability - step;
            step = step * 0.75f;
            Check.bits("ability", ability, school.ability(0));
            Check.bits("difficulty", isRight ? -0.125f : 0.125f, school.difficulty(item));
        }
        Check.badState(school, () -> school.answer(0, true));
    }

    static void p17_answerRefuses() {
        TongueSchool school = withItems();
        Check.badState(school, () -> school.answer(0, true));
        Check.noSuch(school, () -> school.answer(3, true));
        Check.noSuch(school, () -> school.answer(-1, false));
        Check.noSuch(school, () -> school.answer(Integer.MAX_VALUE, false));
        school.item(3);
        Check.same("item", 0, school.answer(0, true));
        Check.badState(school, () -> school.answer(0, false));
        school.item(5);
        Check.same("an ITEM that came later", 1, school.answer(0, false));
        Check.bits("ability", 0.25f, school.ability(0));
    }

    static void p26_difficultyRefuses() {
        TongueSchool school = withItems(7);
        Check.bits("difficulty", 0.875f, school.difficulty(0));
        Check.noSuch(school, () -> school.difficulty(1));
        Check.noSuch(school, () -> school.difficulty(-1));
        Check.noSuch(school, () -> school.difficulty(12));
        Check.noSuch(school, () -> school.difficulty(Integer.MIN_VALUE));
    }

    static void p26_aDifficultyComesToZeroWithoutASign() {
        TongueSchool school = withItems(1, -1);
        school.answer(0, true);
        school.answer(0, false);
        Check.bits("from above", 0f, school.difficulty(0));
        Check.bits("from below", 0f, school.difficulty(1));
    }

    static void p27_abilityRefuses() {
        TongueSchool school = withItems(0);
        Check.bits("at first", 0f, school.ability(2));
        school.answer(2, false);
        Check.bits("below 0f", -1f, school.ability(2));
        Check.bits("another LEARNER", 0f, school.ability(1));
        Check.noSuch(school, () -> school.ability(3));
        Check.noSuch(school, () -> school.ability(-1));
        Check.noSuch(school, () -> school.ability(Integer.MAX_VALUE));
    }
}
