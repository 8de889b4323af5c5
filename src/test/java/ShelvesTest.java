/** Promises 14, 15 and 25. */
final class ShelvesTest {
    private static final String BAD_KIND = "Throws `IllegalArgumentException` if kind is out of range";
    private static final String FOUR_SHELVES = "Throws `IllegalStateException` if there are 4";
    private static final String NOTHING_LIKE_THAT =
            "Throws `IndexOutOfBoundsException` if there is no such SHELF or place, or TEXT or FORM with that number";
    private static final String NO_SHELF_OR_PLACE = "Throws `IndexOutOfBoundsException` if there is no such SHELF or place";
    private static final String WRONG_KIND = "Throws `ArrayStoreException` if the SHELF is for another KIND";
    private static final String FIRST_NAMED = "the one that is named first in the throws clause is thrown";
    private static final String WAS_THERE = "Returns whether something was there.";
    private static final String A_KIND = "and for a KIND: TEXTS 0, FORMS 1, or ANY 2";
    private static final String TOLD =
            "Returns the number of a TEXT, or 100 and that of a FORM, together; NONE if nothing is.";

    private ShelvesTest() {
    }

    /** Two FORMS, two TEXTS, and a SHELF of each KIND, which is its number. */
    private static School withShelves() {
        School school = Schools.with(2, 0);
        school.text(1);
        school.text(2);
        school.shelf(TongueSchool.TEXTS);
        school.shelf(TongueSchool.FORMS);
        school.shelf(TongueSchool.ANY);
        return school;
    }

    // ---- 14: shelf

    @Holds({"Adds a SHELF.", "Returns its number.", "SHELVES are numbered from 0, at most 4"})
    static void p14_shelf_numbersFrom0AndThe4thIs3() {
        School school = new School();
        for (int shelf = 0; shelf < 4; shelf++) {
            Check.same("shelf", shelf, school.shelf(TongueSchool.ANY));
        }
        Check.same("a place of the 4th", TongueSchool.NONE, school.at(3, 4));
    }

    @Holds(FOUR_SHELVES)
    static void p14_shelf_the5thIsRefused() {
        School school = withShelves();
        school.shelf(TongueSchool.ANY);
        school.put(3, 0, true, 1);
        Check.badState(school, () -> school.shelf(0), () -> school.shelf(1), () -> school.shelf(2));
        Check.noSuch(school, () -> school.at(4, 0));
    }

    @Holds({"- `kind`: TEXTS to ANY", BAD_KIND})
    static void p14_kind_isTextsToAny() {
        School school = Schools.with(1, 0);
        Check.badBeyond(school, TongueSchool.TEXTS, TongueSchool.ANY, kind -> school.shelf(kind));
        Check.same("the first KIND", 0, school.shelf(0));
        Check.same("the last KIND", 1, school.shelf(2));
    }

    @Holds({FIRST_NAMED, BAD_KIND, FOUR_SHELVES})
    static void p14_order_badKindComesAheadOfTooManyShelves() {
        School school = withShelves();
        school.shelf(TongueSchool.ANY);
        Check.badBeyond(school, TongueSchool.TEXTS, TongueSchool.ANY, kind -> school.shelf(kind));
    }

    // ---- 15: put

    @Holds({"Puts something at a place of a SHELF.", WAS_THERE,
        "A number of a TEXT or a FORM can be put at a place of a SHELF, in place of what was there"})
    static void p15_put_returnsWhetherSomethingWasThere() {
        School school = withShelves();
        Check.same("a TEXT", false, school.put(2, 0, true, 0));
        Check.same("another TEXT", true, school.put(2, 0, true, 1));
        Check.same("a FORM", true, school.put(2, 0, false, 0));
        Check.same("the same FORM", true, school.put(2, 0, false, 0));
        Check.same("the TEXT 0", true, school.put(2, 0, true, 0));
        Check.same("in place of the TEXT 0", true, school.put(2, 0, false, 1));
        Check.same("which is there now", 101, school.at(2, 0));
        Check.same("elsewhere", false, school.put(2, 1, false, 0));
    }

    @Holds({A_KIND, "- `isText`: whether it is a TEXT; otherwise a FORM", "- `number`: that of the TEXT or FORM"})
    static void p15_put_whatIsOfTheKind() {
        School school = withShelves();
        Check.same("a TEXT among TEXTS", false, school.put(0, 0, true, 1));
        Check.same("a FORM among FORMS", false, school.put(1, 0, false, 1));
        Check.same("a TEXT among ANY", false, school.put(2, 0, true, 1));
        Check.same("a FORM among ANY", false, school.put(2, 1, false, 1));
        Check.same("TEXT", 1, school.at(0, 0));
        Check.same("FORM", 101, school.at(1, 0));
        Check.same("TEXT", 1, school.at(2, 0));
        Check.same("FORM", 101, school.at(2, 1));
    }

    @Holds({WRONG_KIND, "one for another KIND throws ArrayStoreException"})
    static void p15_put_ofAnotherKindIsRefused() {
        School school = withShelves();
        Check.wrongKind(school, () -> school.put(0, 0, false, 0), () -> school.put(0, 4, false, 1));
        Check.wrongKind(school, () -> school.put(1, 0, true, 0), () -> school.put(1, 4, true, 1));
        Check.same("nothing is there", TongueSchool.NONE, school.at(0, 0));
        Check.same("nothing is there", TongueSchool.NONE, school.at(1, 4));
        school.put(0, 0, true, 1);
        Check.wrongKind(school, () -> school.put(0, 0, false, 0));
        Check.same("what was there", 1, school.at(0, 0));
    }

    @Holds({"- `place`: 0 to 4", "each with 5 places"})
    static void p15_place_is0To4() {
        for (int shelf = 0; shelf < 3; shelf++) {
            School school = withShelves();
            int which = shelf;
            boolean isText = shelf != TongueSchool.FORMS;
            Check.noSuchBeyond(school, 5, place -> school.put(which, place, isText, 0));
            for (int place = 0; place < 5; place++) {
                Check.same("place", false, school.put(shelf, place, isText, 0));
            }
        }
    }

    @Holds(NOTHING_LIKE_THAT)
    static void p15_put_onNoSuchShelfIsRefused() {
        School school = Schools.with(1, 0);
        school.text(1);
        for (int shelves = 0; shelves <= 4; shelves++) {
            Check.noSuchBeyond(school, shelves, shelf -> school.put(shelf, 0, true, 0));
            if (shelves < 4) {
                school.shelf(TongueSchool.ANY);
            }
        }
    }

    @Holds(NOTHING_LIKE_THAT)
    static void p15_put_ofNoSuchTextIsRefused() {
        School school = withShelves();
        Check.noSuchBeyond(school, 2, text -> school.put(0, 0, true, text));
        Check.noSuchBeyond(school, 2, text -> school.put(2, 0, true, text));
        School full = Schools.with(1, 0);
        full.shelf(TongueSchool.TEXTS);
        Check.noSuchBeyond(full, 0, text -> full.put(0, 0, true, text));
        for (int text = 0; text < 10; text++) {
            full.text(1);
        }
        Check.same("the tenth", false, full.put(0, 0, true, 9));
        Check.noSuchBeyond(full, 10, text -> full.put(0, 0, true, text));
    }

    @Holds(NOTHING_LIKE_THAT)
    static void p15_put_ofNoSuchFormIsRefused() {
        for (int forms = 0; forms <= 12; forms += 4) {
            School school = Schools.with(forms, 0);
            school.shelf(TongueSchool.FORMS);
            Check.noSuchBeyond(school, forms, form -> school.put(0, 0, false, form));
        }
    }

    /** There are three FORMS and one TEXT, so that a number is one of a FORM alone, and turned. */
    @Holds({NOTHING_LIKE_THAT, "- `isText`: whether it is a TEXT; otherwise a FORM"})
    static void p15_number_isLookedForAmongItsOwnKind() {
        School forms = Schools.with(3, 0);
        forms.text(1);
        forms.shelf(TongueSchool.ANY);
        Check.noSuch(forms, () -> forms.put(0, 0, true, 2));
        Check.same("the FORM", false, forms.put(0, 0, false, 2));
        School texts = Schools.with(1, 0);
        texts.text(1);
        texts.text(1);
        texts.shelf(TongueSchool.ANY);
        Check.noSuch(texts, () -> texts.put(0, 0, false, 1));
        Check.same("the TEXT", false, texts.put(0, 0, true, 1));
    }

    @Holds({FIRST_NAMED, NOTHING_LIKE_THAT, WRONG_KIND})
    static void p15_order_nothingLikeThatComesAheadOfAnotherKind() {
        School school = withShelves();
        Check.noSuch(school, () -> school.put(0, 5, false, 0), () -> school.put(0, -1, false, 0),
                () -> school.put(0, 0, false, 2), () -> school.put(0, 0, false, -1),
                () -> school.put(1, 5, true, 0), () -> school.put(1, 0, true, 2), () -> school.put(3, 0, true, 0));
    }

    // ---- 25: at

    @Holds({"Tells what is at a place of a SHELF.", TOLD})
    static void p25_at_isNoneWhereNothingIs() {
        School school = withShelves();
        for (int shelf = 0; shelf < 3; shelf++) {
            for (int place = 0; place < 5; place++) {
                Check.same("at", TongueSchool.NONE, school.at(shelf, place));
            }
        }
    }

    @Holds(TOLD)
    static void p25_at_tellsATextByItsNumberAndAFormBy100More() {
        School school = Schools.with(12, 0);
        for (int text = 0; text < 10; text++) {
            school.text(1);
        }
        school.shelf(TongueSchool.ANY);
        school.shelf(TongueSchool.ANY);
        school.put(0, 0, true, 0);
        school.put(0, 1, true, 9);
        school.put(0, 3, false, 0);
        school.put(0, 4, false, 11);
        Check.same("the first TEXT", 0, school.at(0, 0));
        Check.same("the last TEXT", 9, school.at(0, 1));
        Check.same("nothing", TongueSchool.NONE, school.at(0, 2));
        Check.same("the first FORM", 100, school.at(0, 3));
        Check.same("the last FORM", 111, school.at(0, 4));
        Check.same("the other SHELF", TongueSchool.NONE, school.at(1, 0));
    }

    @Holds(NO_SHELF_OR_PLACE)
    static void p25_at_onNoSuchShelfIsRefused() {
        School school = new School();
        for (int shelves = 0; shelves <= 4; shelves++) {
            Check.noSuchBeyond(school, shelves, shelf -> school.at(shelf, 0));
            if (shelves < 4) {
                school.shelf(shelves % 3);
            }
        }
    }

    @Holds({NO_SHELF_OR_PLACE, "- `place`: 0 to 4"})
    static void p25_place_is0To4() {
        School school = withShelves();
        Check.noSuchBeyond(school, 5, place -> school.at(0, place));
        school.put(0, 4, true, 1);
        Check.same("the last", 1, school.at(0, 4));
        Check.same("the first", TongueSchool.NONE, school.at(0, 0));
    }
}
