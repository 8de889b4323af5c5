/**
 * How strangers learn to speak: FORMS, LEARNERS, lessons, talk, corrections, TEXTS, SHELVES,
 * placement, groups and the best lessons of a day. ../shared/DOC.md says what each call promises.
 */
public final class TongueSchool {
    public static final int NONE = -1;
    public static final int TEXTS = 0, FORMS = 1, ANY = 2;
    public static final int RECAST = 0, PROMPT = 1, EXPLICIT = 2;

    private static final int TONGUES = 4;
    private static final int HINDERS = -1, HELPS = 1;
    private static final int MOST_FORMS = 12;
    private static final int MOST_LEARNERS = 6;
    private static final int MOST_TEXTS = 10;
    private static final int MOST_SHELVES = 4;
    private static final int PLACES = 5;
    private static final int MOST_ITEMS = 12;
    private static final int MOST_EIGHTHS = 64;
    private static final int LAST_DAY = 999;
    private static final int MOST_DAYS_AT_ONCE = 30;
    private static final int LESSONS_A_DAY = 3;
    private static final int ERRORS_TO_STONE = 3;
    private static final int EXPLICITS_TO_MEND = 2;
    private static final int UPSETS_TO_HUSH = 3;
    private static final int MOST_FRIENDS = 9;
    private static final int MOST_IN_A_GROUP = 4;
    private static final int MARK_OF_A_FORM = 100;
    private static final int SET_KNOWN = 0, SET_READY = 1, SET_FOSSILS = 2, SET_TAUGHT = 3;

    private final Grammar grammar = new Grammar();
    private final Learner[] learners = new Learner[MOST_LEARNERS];
    private final int[] texts = new int[MOST_TEXTS];
    private final Shelf[] shelves = new Shelf[MOST_SHELVES];
    private final float[] difficulties = new float[MOST_ITEMS];
    private final DayPlan dayPlan = new DayPlan();
    private int learnerCount;
    private int textCount;
    private int shelfCount;
    private int itemCount;
    private int today;

    public TongueSchool() {
    }

    // ---- forms, learners

    public int form(int needs) throws IllegalArgumentException, IllegalStateException {
        checkFormSet(needs);
        if (grammar.count >= MOST_FORMS) {
            throw new IllegalStateException("there are 12 FORMS");
        }
        return grammar.add(needs);
    }

    public int transfer(int tongue, int form, int how) throws IndexOutOfBoundsException, IllegalArgumentException {
        checkTongue(tongue);
        checkForm(form);
        if (how < HINDERS || how > HELPS) {
            throw new IllegalArgumentException("how is -1 to 1");
        }
        int before = grammar.bearings[tongue][form];
        grammar.bearings[tongue][form] = how;
        return before;
    }

    public int learner(int tongue) throws IndexOutOfBoundsException, IllegalStateException {
        checkTongue(tongue);
        if (learnerCount >= MOST_LEARNERS) {
            throw new IllegalStateException("there are 6 LEARNERS");
        }
        learners[learnerCount] = new Learner(tongue);
        return learnerCount++;
    }

    // ---- lessons, talk, corrections

    public int lesson(int learner, int form) throws IndexOutOfBoundsException, IllegalStateException {
        Learner pupil = learnerOf(learner);
        checkForm(form);
        if (!grammar.isReady(form, pupil.strengths)) {
            throw new IllegalStateException("the FORM is not READY");
        }
        if (pupil.lessonsToday >= LESSONS_A_DAY) {
            throw new IllegalStateException("the LEARNER had 3 lessons on this day");
        }
        pupil.grow(form, grammar.lessonGain(pupil, form));
        pupil.lessonsToday++;
        pupil.taught |= 1 << form;
        return bitsOf(pupil.strengths[form]);
    }

    public int pass(int days) throws IllegalArgumentException, IllegalStateException {
        if (days < 1 || days > MOST_DAYS_AT_ONCE) {
            throw new IllegalArgumentException("days are 1 to 30");
        }
        if (today + days > LAST_DAY) {
            throw new IllegalStateException("the day would be above 999");
        }
        for (Learner each : learners) {
            if (each != null) {
                each.sleepThrough(days);
            }
        }
        today += days;
        return today;
    }

    public int talk(int learner, int forms)
            throws IndexOutOfBoundsException, IllegalArgumentException, IllegalStateException {
        Learner talker = learnerOf(learner);
        checkFormSet(forms);
        checkNotEmpty(forms);
        if (talker.hasBeenHushed()) {
            throw new IllegalStateException("the LEARNER is HUSHED");
        }
        int wrong = 0;
        for (int form = 0; form < grammar.count; form++) {
            if (contains(forms, form) && !talker.says(form)) {
                wrong |= 1 << form;
            }
        }
        return wrong;
    }

    public int correct(int learner, int form, int way) throws IndexOutOfBoundsException, IllegalArgumentException {
        Learner corrected = learnerOf(learner);
        checkForm(form);
        if (way < RECAST || way > EXPLICIT) {
            throw new IllegalArgumentException("way is RECAST to EXPLICIT");
        }
        if (way == RECAST) {
            corrected.hearRecast(form);
        } else if (way == PROMPT) {
            corrected.hearPrompt(form);
        } else {
            corrected.hearExplicit(form);
        }
        return bitsOf(corrected.strengths[form]);
    }

    public int abroad(int learner, int friends) throws IndexOutOfBoundsException, IllegalArgumentException {
        Learner traveller = learnerOf(learner);
        if (friends < 0 || friends > MOST_FRIENDS) {
            throw new IllegalArgumentException("friends are 0 to 9");
        }
        // The set is taken before anything grows: what becomes READY on the way does not count.
        int ready = grammar.readySet(traveller.strengths);
        growAll(traveller, ready, 0.015625f * (float) friends);
        return levelOf(traveller);
    }

    public boolean keep(int learner) throws IndexOutOfBoundsException {
        Learner noted = learnerOf(learner);
        boolean before = noted.hasNote;
        System.arraycopy(noted.strengths, 0, noted.note, 0, MOST_FORMS);
        noted.hasNote = true;
        return before;
    }

    public int back(int learner) throws IndexOutOfBoundsException, IllegalStateException {
        Learner noted = learnerOf(learner);
        if (!noted.hasNote) {
            throw new IllegalStateException("there is no note");
        }
        // FORMS that came since the note stand in it with the 0f that they had before they came.
        System.arraycopy(noted.note, 0, noted.strengths, 0, MOST_FORMS);
        return levelOf(noted);
    }

    // ---- texts, shelves

    public int text(int forms) throws IllegalArgumentException, IllegalStateException {
        checkFormSet(forms);
        checkNotEmpty(forms);
        if (textCount >= MOST_TEXTS) {
            throw new IllegalStateException("there are 10 TEXTS");
        }
        texts[textCount] = forms;
        return textCount++;
    }

    public int read(int learner, int text) throws IndexOutOfBoundsException, IllegalStateException {
        Learner reader = learnerOf(learner);
        checkText(text);
        if (!canRead(reader, text)) {
            throw new IllegalStateException("the TEXT cannot be read, or was");
        }
        reader.textsRead |= 1 << text;
        growAll(reader, texts[text], 0.0625f);
        return levelOf(reader);
    }

    public int shelf(int kind) throws IllegalArgumentException, IllegalStateException {
        if (kind < TEXTS || kind > ANY) {
            throw new IllegalArgumentException("kind is TEXTS to ANY");
        }
        if (shelfCount >= MOST_SHELVES) {
            throw new IllegalStateException("there are 4 SHELVES");
        }
        shelves[shelfCount] = new Shelf(kind);
        return shelfCount++;
    }

    public boolean put(int shelf, int place, boolean isText, int number)
            throws IndexOutOfBoundsException, ArrayStoreException {
        Shelf target = shelfOf(shelf);
        checkPlace(place);
        if (isText) {
            checkText(number);
        } else {
            checkForm(number);
        }
        if (!target.takes(isText ? TEXTS : FORMS)) {
            throw new ArrayStoreException("the SHELF is for another KIND");
        }
        boolean before = target.places[place] != NONE;
        target.places[place] = isText ? number : MARK_OF_A_FORM + number;
        return before;
    }

    // ---- placement

    public int item(int eighths) throws IllegalArgumentException, IllegalStateException {
        if (eighths < -MOST_EIGHTHS || eighths > MOST_EIGHTHS) {
            throw new IllegalArgumentException("eighths are -64 to 64");
        }
        if (itemCount >= MOST_ITEMS) {
            throw new IllegalStateException("there are 12 ITEMS");
        }
        difficulties[itemCount] = (float) eighths * 0.125f;
        return itemCount++;
    }

    public int answer(int learner, boolean isRight) throws IndexOutOfBoundsException, IllegalStateException {
        Learner asked = learnerOf(learner);
        int item = itemToAsk(asked);
        if (item == NONE) {
            throw new IllegalStateException("there is no ITEM to ask");
        }
        if (isRight) {
            asked.ability = asked.ability + asked.step;
            difficulties[item] = difficulties[item] - 0.125f;
        } else {
            asked.ability = asked.ability - asked.step;
            difficulties[item] = difficulties[item] + 0.125f;
        }
        asked.step = asked.step * 0.75f;
        asked.itemsAsked |= 1 << item;
        return item;
    }

    // ---- what there is; nothing from here on changes anything

    public int day() {
        return today;
    }

    public int strength(int learner, int form) throws IndexOutOfBoundsException {
        Learner asked = learnerOf(learner);
        checkForm(form);
        return bitsOf(asked.strengths[form]);
    }

    public int level(int learner) throws IndexOutOfBoundsException {
        return levelOf(learnerOf(learner));
    }

    public int forms(int learner, int what) throws IndexOutOfBoundsException, IllegalArgumentException {
        Learner asked = learnerOf(learner);
        switch (what) {
            case SET_KNOWN:
                return grammar.knownSet(asked.strengths);
            case SET_READY:
                return grammar.readySet(asked.strengths);
            case SET_FOSSILS:
                return asked.fossils;
            case SET_TAUGHT:
                return asked.taught;
            default:
                throw new IllegalArgumentException("what is 0 to 3");
        }
    }

    public boolean isHushed(int learner) throws IndexOutOfBoundsException {
        return learnerOf(learner).hasBeenHushed();
    }

    public int cause(int learner, int form) throws IndexOutOfBoundsException {
        Learner asked = learnerOf(learner);
        checkForm(form);
        if (isKnownAt(asked.strengths[form])) {
            return 0;
        }
        if (!grammar.isReady(form, asked.strengths)) {
            return 1;
        }
        if (contains(asked.fossils, form)) {
            return 2;
        }
        if (grammar.bearings[asked.tongue][form] == HINDERS) {
            return 3;
        }
        return contains(asked.taught, form) ? 5 : 4;
    }

    public int next(int learner) throws IndexOutOfBoundsException {
        Learner reader = learnerOf(learner);
        int best = NONE;
        int mostWeak = NONE;
        for (int text = 0; text < textCount; text++) {
            if (canRead(reader, text)) {
                int weak = weakForms(reader, texts[text]);
                if (weak > mostWeak) {
                    best = text;
                    mostWeak = weak;
                }
            }
        }
        return best;
    }

    public int at(int shelf, int place) throws IndexOutOfBoundsException {
        Shelf target = shelfOf(shelf);
        checkPlace(place);
        return target.places[place];
    }

    public int difficulty(int item) throws IndexOutOfBoundsException {
        if (item < 0 || item >= itemCount) {
            throw new IndexOutOfBoundsException("no such ITEM");
        }
        return bitsOf(difficulties[item]);
    }

    public int ability(int learner) throws IndexOutOfBoundsException {
        return bitsOf(learnerOf(learner).ability);
    }

    public int group(int learners) throws IllegalArgumentException {
        checkLearnerSet(learners);
        return bestFirstGroup(learners);
    }

    public int cost(int learners) throws IllegalArgumentException {
        checkLearnerSet(learners);
        int first = bestFirstGroup(learners);
        return groupCost(first) + groupCost(learners ^ first);
    }

    public int plan(int learner, int lessons, int turn) throws IndexOutOfBoundsException, IllegalArgumentException {
        Learner planned = learnerOf(learner);
        checkLessons(lessons);
        if (turn < 0 || turn >= lessons) {
            throw new IllegalArgumentException("turn is 0 to less than lessons");
        }
        dayPlan.find(grammar, planned, lessons);
        return dayPlan.isFound ? dayPlan.best[turn] : NONE;
    }

    public int total(int learner, int lessons) throws IndexOutOfBoundsException, IllegalArgumentException {
        Learner planned = learnerOf(learner);
        checkLessons(lessons);
        dayPlan.find(grammar, planned, lessons);
        return bitsOf(dayPlan.bestTotal);
    }

    public int totalAnew(int learner, int lessons) throws IndexOutOfBoundsException, IllegalArgumentException {
        Learner planned = learnerOf(learner);
        checkLessons(lessons);
        dayPlan.findByAllRows(grammar, planned, lessons);
        return bitsOf(dayPlan.bestTotal);
    }

    // ---- what calls are refused

    private static void checkTongue(int tongue) {
        if (tongue < 0 || tongue >= TONGUES) {
            throw new IndexOutOfBoundsException("no such TONGUE");
        }
    }

    private void checkForm(int form) {
        if (form < 0 || form >= grammar.count) {
            throw new IndexOutOfBoundsException("no such FORM");
        }
    }

    private void checkFormSet(int set) {
        if (!isSetOf(set, grammar.count)) {
            throw new IllegalArgumentException("the set has others than the FORMS that are there");
        }
    }

    private void checkLearnerSet(int set) {
        if (!isSetOf(set, learnerCount)) {
            throw new IllegalArgumentException("the set has others than the LEARNERS that are there");
        }
    }

    private static void checkNotEmpty(int set) {
        if (set == 0) {
            throw new IllegalArgumentException("the set is empty");
        }
    }

    private void checkText(int text) {
        if (text < 0 || text >= textCount) {
            throw new IndexOutOfBoundsException("no such TEXT");
        }
    }

    private static void checkPlace(int place) {
        if (place < 0 || place >= PLACES) {
            throw new IndexOutOfBoundsException("no such place");
        }
    }

    private static void checkLessons(int lessons) {
        if (lessons < 1 || lessons > LESSONS_A_DAY) {
            throw new IllegalArgumentException("lessons are 1 to 3");
        }
    }

    private Learner learnerOf(int number) {
        Learner found = number < 0 || number >= MOST_LEARNERS ? null : learners[number];
        if (found == null) {
            throw new IndexOutOfBoundsException("no such LEARNER");
        }
        return found;
    }

    private Shelf shelfOf(int number) {
        Shelf found = number < 0 || number >= MOST_SHELVES ? null : shelves[number];
        if (found == null) {
            throw new IndexOutOfBoundsException("no such SHELF");
        }
        return found;
    }

    // ---- sets and strengths

    private static boolean contains(int set, int number) {
        return (set >> number & 1) != 0;
    }

    /** A negative set has the bit 31, so the unsigned shift finds it out of range too. */
    private static boolean isSetOf(int set, int count) {
        return set >>> count == 0;
    }

    private static boolean isKnownAt(float strength) {
        return strength >= 0.5f;
    }

    private static float grown(float strength, float gain) {
        return strength + (1f - strength) * gain;
    }

    /**
     * The bits that Float.floatToIntBits tells, which the language here leaves out. Halving and
     * doubling are exact on the way. No float of a school is -0f, NaN or infinite.
     */
    private static int bitsOf(float value) {
        if (value == 0f) {
            return 0;
        }
        int sign = value < 0f ? 1 << 31 : 0;
        float size = value < 0f ? -value : value;
        int exponent = 127;
        while (size >= 2f && exponent < 254) {
            size = size * 0.5f;
            exponent++;
        }
        while (size < 1f && exponent > 1) {
            size = size * 2f;
            exponent--;
        }
        // What is below 1f at the least exponent has no leading 1 to leave out: it is subnormal.
        int fraction = (int) (size * 8388608f);
        return size < 1f ? sign | fraction : sign | exponent << 23 | fraction - (1 << 23);
    }

    private int levelOf(Learner learner) {
        return Integer.bitCount(grammar.knownSet(learner.strengths));
    }

    private void growAll(Learner learner, int set, float gain) {
        for (int form = 0; form < grammar.count; form++) {
            if (contains(set, form)) {
                learner.grow(form, gain);
            }
        }
    }

    // ---- texts, items

    private boolean canRead(Learner reader, int text) {
        int unknown = texts[text] & ~grammar.knownSet(reader.strengths);
        return !contains(reader.textsRead, text) && Integer.bitCount(unknown) <= 1;
    }

    private int weakForms(Learner reader, int set) {
        int weak = 0;
        for (int form = 0; form < grammar.count; form++) {
            if (contains(set, form) && reader.strengths[form] < 0.75f) {
                weak++;
            }
        }
        return weak;
    }

    private int itemToAsk(Learner asked) {
        int best = NONE;
        float least = 0f;
        for (int item = 0; item < itemCount; item++) {
            if (!contains(asked.itemsAsked, item)) {
                float distance = distanceOf(difficulties[item], asked.ability);
                if (best == NONE || distance < least) {
                    best = item;
                    least = distance;
                }
            }
        }
        return best;
    }

    private static float distanceOf(float difficulty, float ability) {
        float above = difficulty - ability;
        return above < 0f ? ability - difficulty : above;
    }

    // ---- groups

    private int bestFirstGroup(int set) {
        int best = 0;
        int least = NONE;
        for (int first = 0; first <= set; first++) {
            if (isParting(first, set)) {
                int sum = groupCost(first) + groupCost(set ^ first);
                if (least == NONE || sum < least) {
                    best = first;
                    least = sum;
                }
            }
        }
        return best;
    }

    private static boolean isParting(int first, int set) {
        return (first & ~set) == 0
                && Integer.bitCount(first) <= MOST_IN_A_GROUP
                && Integer.bitCount(set ^ first) <= MOST_IN_A_GROUP;
    }

    private int groupCost(int set) {
        int least = MOST_FORMS;
        int greatest = 0;
        for (int number = 0; number < MOST_LEARNERS; number++) {
            Learner member = learners[number];
            if (member != null && contains(set, number)) {
                int level = levelOf(member);
                least = Math.min(least, level);
                greatest = Math.max(greatest, level);
            }
        }
        return set == 0 ? 0 : greatest - least;
    }

    /** The FORMS with what they need, and how the TONGUES bear on them. */
    private static final class Grammar {
        final int[] needs = new int[MOST_FORMS];
        final int[][] bearings = new int[TONGUES][MOST_FORMS];
        int count;

        int add(int needed) {
            needs[count] = needed;
            return count++;
        }

        int knownSet(float[] strengths) {
            int known = 0;
            for (int form = 0; form < count; form++) {
                if (isKnownAt(strengths[form])) {
                    known |= 1 << form;
                }
            }
            return known;
        }

        int readySet(float[] strengths) {
            int known = knownSet(strengths);
            int ready = 0;
            for (int form = 0; form < count; form++) {
                if ((needs[form] & ~known) == 0) {
                    ready |= 1 << form;
                }
            }
            return ready;
        }

        boolean isReady(int form, float[] strengths) {
            return contains(readySet(strengths), form);
        }

        float lessonGain(Learner learner, int form) {
            int bearing = bearings[learner.tongue][form];
            float gain = bearing == HELPS ? 0.5f : bearing == HINDERS ? 0.125f : 0.25f;
            return contains(learner.fossils, form) ? gain * 0.5f : gain;
        }
    }

    /** One who learns: the strengths, and what was counted, taught, read, asked and noted. */
    private static final class Learner {
        final int tongue;
        final float[] strengths = new float[MOST_FORMS];
        final float[] note = new float[MOST_FORMS];
        final int[] errors = new int[MOST_FORMS];
        final int[] explicits = new int[MOST_FORMS];
        boolean hasNote;
        int fossils;
        int taught;
        int textsRead;
        int itemsAsked;
        int lessonsToday;
        int upsetsToday;
        float ability;
        float step = 1f;

        Learner(int tongue) {
            this.tongue = tongue;
        }

        void grow(int form, float gain) {
            strengths[form] = grown(strengths[form], gain);
        }

        boolean hasBeenHushed() {
            return upsetsToday >= UPSETS_TO_HUSH;
        }

        void sleepThrough(int days) {
            for (int night = 0; night < days; night++) {
                for (int form = 0; form < MOST_FORMS; form++) {
                    float strength = strengths[form];
                    strengths[form] = isKnownAt(strength) ? strength * 0.96875f : strength * 0.875f;
                }
            }
            lessonsToday = 0;
            upsetsToday = 0;
        }

        /** Returns whether it was right. */
        boolean says(int form) {
            if (isKnownAt(strengths[form])) {
                grow(form, 0.03125f);
                return true;
            }
            if (!contains(fossils, form)) {
                countError(form);
            }
            return false;
        }

        void countError(int form) {
            errors[form]++;
            if (errors[form] >= ERRORS_TO_STONE) {
                fossils |= 1 << form;
                errors[form] = 0;
                explicits[form] = 0;
            }
        }

        void hearRecast(int form) {
            if (strengths[form] >= 0.25f) {
                grow(form, 0.0625f);
            }
        }

        void hearPrompt(int form) {
            if (isKnownAt(strengths[form])) {
                grow(form, 0.125f);
            }
        }

        void hearExplicit(int form) {
            grow(form, 0.125f);
            if (upsetsToday < UPSETS_TO_HUSH) {
                upsetsToday++;
            }
            if (contains(fossils, form)) {
                explicits[form]++;
                if (explicits[form] >= EXPLICITS_TO_MEND) {
                    fossils &= ~(1 << form);
                }
            }
        }
    }

    /** Five places for things of a KIND, each with what at() tells of it. */
    private static final class Shelf {
        final int kind;
        final int[] places = {NONE, NONE, NONE, NONE, NONE};

        Shelf(int kind) {
            this.kind = kind;
        }

        boolean takes(int otherKind) {
            return kind == ANY || kind == otherKind;
        }
    }

    /** The search for the PLAN; its rows are kept, so that a search makes nothing new. */
    private static final class DayPlan {
        final float[] strengths = new float[MOST_FORMS];
        final float[] gains = new float[MOST_FORMS];
        final int[] row = new int[LESSONS_A_DAY];
        final int[] best = new int[LESSONS_A_DAY];
        boolean isFound;
        float bestTotal;

        void find(Grammar grammar, Learner learner, int lessons) {
            begin(grammar, learner);
            extend(this, grammar, 0, lessons);
        }

        void findByAllRows(Grammar grammar, Learner learner, int lessons) {
            begin(grammar, learner);
            int rows = 1;
            for (int turn = 0; turn < lessons; turn++) {
                rows *= grammar.count;
            }
            for (int number = 0; number < rows; number++) {
                System.arraycopy(learner.strengths, 0, strengths, 0, MOST_FORMS);
                writeRow(number, grammar.count, lessons);
                if (canFollowRow(grammar, lessons)) {
                    compare(grammar.count, lessons);
                }
            }
        }

        private void begin(Grammar grammar, Learner learner) {
            System.arraycopy(learner.strengths, 0, strengths, 0, MOST_FORMS);
            for (int form = 0; form < grammar.count; form++) {
                gains[form] = grammar.lessonGain(learner, form);
            }
            isFound = false;
            bestTotal = sum(grammar.count);
        }

        /** Tries the rows from the lower FORM on, so that of several best ones the first stays. */
        private static void extend(DayPlan plan, Grammar grammar, int turn, int lessons) {
            if (turn >= lessons || turn >= LESSONS_A_DAY) {
                plan.compare(grammar.count, lessons);
                return;
            }
            int ready = grammar.readySet(plan.strengths);
            for (int form = 0; form < grammar.count; form++) {
                if (contains(ready, form)) {
                    float before = plan.strengths[form];
                    plan.row[turn] = form;
                    plan.strengths[form] = grown(before, plan.gains[form]);
                    extend(plan, grammar, turn + 1, lessons);
                    plan.strengths[form] = before;
                }
            }
        }

        private void writeRow(int number, int base, int lessons) {
            int rest = number;
            for (int turn = lessons - 1; turn >= 0 && base > 0; turn--) {
                row[turn] = rest % base;
                rest = rest / base;
            }
        }

        private boolean canFollowRow(Grammar grammar, int lessons) {
            for (int turn = 0; turn < lessons; turn++) {
                int form = row[turn];
                if (!grammar.isReady(form, strengths)) {
                    return false;
                }
                strengths[form] = grown(strengths[form], gains[form]);
            }
            return true;
        }

        private void compare(int count, int lessons) {
            float sum = sum(count);
            if (!isFound || sum > bestTotal) {
                isFound = true;
                bestTotal = sum;
                System.arraycopy(row, 0, best, 0, lessons);
            }
        }

        private float sum(int count) {
            float sum = 0f;
            for (int form = 0; form < count; form++) {
                sum = sum + strengths[form];
            }
            return sum;
        }
    }
}
