/** Promises 12 to 15, 24 and 25. */
final class TextsShelvesTest {
    private TextsShelvesTest() {
    }

    static void p12_textsAreNumberedUpToTen() {
        TongueSchool school = Schools.with(3, 0);
        Check.badArgument(school, () -> school.text(0));
        Check.badArgument(school, () -> school.text(8));
        Check.badArgument(school, () -> school.text(9));
        Check.badArgument(school, () -> school.text(-1));
        Check.badArgument(school, () -> school.text(Integer.MIN_VALUE));
        for (int text = 0; text < 10; text++) {
            Check.same("text", text, school.text(1 + text % 7));
        }
        Check.badState(school, () -> school.text(1));
        Check.badState(school, () -> school.text(7));
        Check.badArgument(school, () -> school.text(0));
        Check.badArgument(school, () -> school.text(8));
    }

    static void p13_readingGrowsEachForm() {
        TongueSchool school = Schools.with(3, 2);
        Schools.makeKnown(school, 0, 0);
        school.text(3);
        Check.same("level", 1, school.read(0, 0));
        Check.bits("KNOWN one", Schools.grown(0.5f, 0.0625f), school.strength(0, 0));
        Check.bits("the other", 0.0625f, school.strength(0, 1));
        Check.bits("not of the TEXT", 0f, school.strength(0, 2));
        Check.bits("another LEARNER", 0f, school.strength(1, 0));
    }

    static void p13_readingMayRaiseTheLevel() {
        TongueSchool school = Schools.atJustBelowHalf(2);
        school.text(1);
        Check.same("level", 1, school.read(0, 0));
    }

    static void p13_atMostOneUnknownForm() {
        TongueSchool school = Schools.with(3, 1);
        school.text(3);
        school.text(7);
        school.text(4);
        Check.badState(school, () -> school.read(0, 0));
        Schools.makeKnown(school, 0, 0);
        Check.badState(school, () -> school.read(0, 1));
        Check.same("one unknown", 1, school.read(0, 0));
        Check.same("alone", 1, school.read(0, 2));
        Schools.makeKnown(school, 0, 1);
        Check.same("one of three unknown", 2, school.read(0, 1));
        Check.same("a TEXT that is not READY", 2, school.level(0));
    }

    static void p13_unknownAtAndJustBelowHalf() {
        TongueSchool below = Schools.atJustBelowHalf(2);
        below.text(3);
        Check.badState(below, () -> below.read(0, 0));
        TongueSchool at = Schools.with(2, 1);
        Schools.makeKnown(at, 0, 0);
        at.text(3);
        Check.same("level", 1, at.read(0, 0));
    }

    static void p13_eachReadsATextOnce() {
        TongueSchool school = Schools.with(1, 2);
        school.text(1);
        school.text(1);
        school.read(0, 1);
        Check.badState(school, () -> school.read(0, 1));
        school.pass(30);
        Check.badState(school, () -> school.read(0, 1));
        Check.same("another LEARNER", 0, school.read(1, 1));
        Check.same("another TEXT", 0, school.read(0, 0));
    }

    static void p13_aRefusedReadingDoesNotCount() {
        TongueSchool school = Schools.with(2, 1);
        school.text(3);
        Check.badState(school, () -> school.read(0, 0));
        Schools.makeKnown(school, 0, 0);
        Check.same("level", 1, school.read(0, 0));
    }

    static void p13_readRefuses() {
        TongueSchool school = Schools.with(1, 1);
        school.text(1);
        school.read(0, 0);
        Check.noSuch(school, () -> school.read(1, 0));
        Check.noSuch(school, () -> school.read(-1, 0));
        Check.noSuch(school, () -> school.read(0, 1));
        Check.noSuch(school, () -> school.read(0, -1));
        Check.noSuch(school, () -> school.read(Integer.MAX_VALUE, Integer.MAX_VALUE));
    }

    static void p14_shelvesAreNumberedUpToFour() {
        TongueSchool school = new TongueSchool();
        Check.badArgument(school, () -> school.shelf(3));
        Check.badArgument(school, () -> school.shelf(-1));
        Check.badArgument(school, () -> school.shelf(Integer.MIN_VALUE));
        Check.badArgument(school, () -> school.shelf(Integer.MAX_VALUE));
        for (int shelf = 0; shelf < 4; shelf++) {
            Check.same("shelf", shelf, school.shelf(shelf % 3));
        }
        Check.badState(school, () -> school.shelf(0));
        Check.badState(school, () -> school.shelf(2));
        Check.badArgument(school, () -> school.shelf(3));
    }

    static void p15_shelvesTakeTheirKindAlone() {
        TongueSchool school = Schools.with(2, 0);
        school.text(1);
        school.shelf(TongueSchool.TEXTS);
        school.shelf(TongueSchool.FORMS);
        school.shelf(TongueSchool.ANY);
        Check.same("a TEXT among TEXTS", false, school.put(0, 0, true, 0));
        Check.refused(ArrayStoreException.class, school, () -> school.put(0, 0, false, 0));
        Check.refused(ArrayStoreException.class, school, () -> school.put(0, 1, false, 1));
        Check.same("a FORM among FORMS", false, school.put(1, 0, false, 1));
        Check.refused(ArrayStoreException.class, school, () -> school.put(1, 0, true, 0));
        Check.refused(ArrayStoreException.class, school, () -> school.put(1, 4, true, 0));
        Check.same("a TEXT", false, school.put(2, 4, true, 0));
        Check.same("a FORM in its place", true, school.put(2, 4, false, 0));
        Check.same("a TEXT in its place", true, school.put(2, 4, true, 0));
        Check.same("elsewhere", false, school.put(2, 3, false, 0));
    }

    static void p15_putRefuses() {
        TongueSchool school = Schools.with(2, 0);
        school.text(1);
        school.shelf(TongueSchool.TEXTS);
        Check.noSuch(school, () -> school.put(1, 0, true, 0));
        Check.noSuch(school, () -> school.put(-1, 0, true, 0));
        Check.noSuch(school, () -> school.put(4, 0, true, 0));
        Check.noSuch(school, () -> school.put(0, 5, true, 0));
        Check.noSuch(school, () -> school.put(0, -1, true, 0));
        Check.noSuch(school, () -> school.put(0, 0, true, 1));
        Check.noSuch(school, () -> school.put(0, 0, true, -1));
        Check.noSuch(school, () -> school.put(0, 0, false, 2));
        Check.noSuch(school, () -> school.put(0, 5, false, 0));
        Check.noSuch(school, () -> school.put(0, 0, false, -1));
        Check.noSuch(school, () -> school.put(0, Integer.MIN_VALUE, true, Integer.MAX_VALUE));
    }

    static void p24_theNextTextHasTheMostWeakForms() {
        TongueSchool school = Schools.with(4, 1);
        Check.same("without TEXTS", TongueSchool.NONE, school.next(0));
        school.text(15);
        Check.same("none can be read", TongueSchool.NONE, school.next(0));
        school.text(1);
        school.text(8);
        Check.same("a tie", 1, school.next(0));
        Schools.makeKnown(school, 0, 0);
        Schools.makeKnown(school, 0, 1);
        school.text(3);
        school.text(7);
        Check.same("three of three", 4, school.next(0));
        Schools.makeKnown(school, 0, 2);
        Check.same("four of four", 0, school.next(0));
        school.read(0, 0);
        Check.same("behind it", 4, school.next(0));
        school.read(0, 4);
        Check.same("behind it", 3, school.next(0));
    }

    static void p24_perhapsNoFormIsWeak() {
        TongueSchool school = Schools.withTongues(2);
        school.lesson(Schools.HELPED, 0);
        school.lesson(Schools.HELPED, 0);
        school.text(1);
        school.text(1);
        Check.bits("at 0.75f", 0.75f, school.strength(Schools.HELPED, 0));
        Check.same("none weak", 0, school.next(Schools.HELPED));
        school.text(3);
        Check.same("one weak", 2, school.next(Schools.HELPED));
    }

    static void p24_weakAtAndJustBelowThreeQuarters() {
        TongueSchool below = Schools.atJustBelowThreeQuarters(3);
        Check.bits("strength", Schools.BELOW_THREE_QUARTERS, below.strength(0, 0));
        below.text(4);
        below.text(5);
        Check.same("just below", 1, below.next(0));
        TongueSchool at = Schools.withTongues(3);
        at.lesson(Schools.HELPED, 0);
        at.lesson(Schools.HELPED, 0);
        at.text(4);
        at.text(5);
        Check.same("at", 0, at.next(Schools.HELPED));
    }

    static void p24_nextRefuses() {
        TongueSchool school = Schools.with(1, 1);
        school.text(1);
        Check.noSuch(school, () -> school.next(1));
        Check.noSuch(school, () -> school.next(-1));
        Check.noSuch(school, () -> school.next(Integer.MIN_VALUE));
        school.read(0, 0);
        Check.same("all were read", TongueSchool.NONE, school.next(0));
    }

    static void p25_atTellsWhatIsThere() {
        TongueSchool school = Schools.with(12, 0);
        school.text(1);
        school.text(2);
        school.shelf(TongueSchool.ANY);
        school.shelf(TongueSchool.ANY);
        for (int place = 0; place < 5; place++) {
            Check.same("empty", TongueSchool.NONE, school.at(0, place));
        }
        school.put(0, 2, true, 1);
        school.put(0, 3, true, 0);
        school.put(0, 4, false, 11);
        Check.same("a TEXT", 1, school.at(0, 2));
        Check.same("the TEXT 0", 0, school.at(0, 3));
        Check.same("a FORM", 111, school.at(0, 4));
        school.put(0, 2, false, 0);
        Check.same("the FORM 0", 100, school.at(0, 2));
        Check.same("the next place", 0, school.at(0, 3));
        Check.same("the other SHELF", TongueSchool.NONE, school.at(1, 2));
    }

    static void p25_atRefuses() {
        TongueSchool school = Schools.with(1, 0);
        school.shelf(TongueSchool.TEXTS);
        Check.noSuch(school, () -> school.at(1, 0));
        Check.noSuch(school, () -> school.at(-1, 0));
        Check.noSuch(school, () -> school.at(0, 5));
        Check.noSuch(school, () -> school.at(0, -1));
        Check.noSuch(school, () -> school.at(Integer.MAX_VALUE, Integer.MIN_VALUE));
    }
}
