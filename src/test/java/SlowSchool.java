import java.util.ArrayList;
import java.util.Collections;
import java.util.HashMap;
import java.util.HashSet;
import java.util.List;
import java.util.Map;
import java.util.Set;

/**
 * The document once more, in the plainest words of the Java library: what random runs compare
 * TongueSchool with. Nothing here is taken from TongueSchool.
 */
final class SlowSchool {
    private static final class Pupil {
        int tongue;
        Map<Integer, Float> strength = new HashMap<>();
        Map<Integer, Float> note;
        Map<Integer, Integer> wrongs = new HashMap<>();
        Map<Integer, Integer> correctedSinceStone = new HashMap<>();
        Set<Integer> lessonsGiven = new HashSet<>();
        Set<Integer> textsRead = new HashSet<>();
        Set<Integer> itemsAnswered = new HashSet<>();
        Map<Integer, Integer> lessonsOfDay = new HashMap<>();
        Map<Integer, Integer> upsetsOfDay = new HashMap<>();
        float ability = 0f;
        float step = 1f;

        float of(int form) {
            return strength.getOrDefault(form, 0f);
        }
    }

    private final List<Set<Integer>> needs = new ArrayList<>();
    private final Map<List<Integer>, Integer> transfers = new HashMap<>();
    private final List<Pupil> pupils = new ArrayList<>();
    private final List<Set<Integer>> texts = new ArrayList<>();
    private final List<Integer> shelfKinds = new ArrayList<>();
    private final Map<List<Integer>, Integer> things = new HashMap<>();
    private final List<Float> items = new ArrayList<>();
    private int day = 0;

    int formCount() {
        return needs.size();
    }

    int learnerCount() {
        return pupils.size();
    }

    int textCount() {
        return texts.size();
    }

    private static Set<Integer> setOf(int bits) {
        Set<Integer> set = new HashSet<>();
        for (int bit = 0; bit < 32; bit++) {
            if ((bits & (1 << bit)) != 0) {
                set.add(bit);
            }
        }
        return set;
    }

    private static int bitsOf(Set<Integer> set) {
        int bits = 0;
        for (int each : set) {
            bits += 1 << each;
        }
        return bits;
    }

    private static void must(boolean isSo, RuntimeException otherwise) {
        if (!isSo) {
            throw otherwise;
        }
    }

    private static void exists(int number, int count) {
        must(number >= 0 && number < count, new IndexOutOfBoundsException());
    }

    private static void argument(boolean isSo) {
        must(isSo, new IllegalArgumentException());
    }

    private static void state(boolean isSo) {
        must(isSo, new IllegalStateException());
    }

    private Set<Integer> formSet(int bits) {
        Set<Integer> set = setOf(bits);
        for (int form : set) {
            argument(form < needs.size());
        }
        return set;
    }

    private Set<Integer> pupilSet(int bits) {
        Set<Integer> set = setOf(bits);
        for (int pupil : set) {
            argument(pupil < pupils.size());
        }
        return set;
    }

    private Pupil pupil(int number) {
        exists(number, pupils.size());
        return pupils.get(number);
    }

    private static boolean known(Pupil pupil, int form) {
        return pupil.of(form) >= 0.5f;
    }

    private boolean ready(Pupil pupil, int form) {
        for (int need : needs.get(form)) {
            if (!known(pupil, need)) {
                return false;
            }
        }
        return true;
    }

    private static void grow(Pupil pupil, int form, float g) {
        float s = pupil.of(form);
        float rest = 1f - s;
        float more = rest * g;
        pupil.strength.put(form, s + more);
    }

    private static boolean stone(Pupil pupil, int form) {
        return pupil.correctedSinceStone.containsKey(form);
    }

    private boolean hushed(Pupil pupil) {
        return pupil.upsetsOfDay.getOrDefault(day, 0) >= 3;
    }

    private int levelOf(Pupil pupil) {
        int level = 0;
        for (int form = 0; form < needs.size(); form++) {
            level += known(pupil, form) ? 1 : 0;
        }
        return level;
    }

    private float gain(Pupil pupil, int form) {
        int how = transfers.getOrDefault(List.of(pupil.tongue, form), 0);
        float gain = 0.25f;
        if (how == 1) {
            gain = 0.5f;
        }
        if (how == -1) {
            gain = 0.125f;
        }
        return stone(pupil, form) ? gain * 0.5f : gain;
    }

    public int form(int bits) {
        Set<Integer> set = formSet(bits);
        state(needs.size() < 12);
        needs.add(set);
        return needs.size() - 1;
    }

    public int transfer(int tongue, int form, int how) {
        exists(tongue, 4);
        exists(form, needs.size());
        argument(how >= -1 && how <= 1);
        Integer before = transfers.put(List.of(tongue, form), how);
        return before == null ? 0 : before;
    }

    public int learner(int tongue) {
        exists(tongue, 4);
        state(pupils.size() < 6);
        Pupil pupil = new Pupil();
        pupil.tongue = tongue;
        pupils.add(pupil);
        return pupils.size() - 1;
    }

    public int lesson(int learner, int form) {
        Pupil pupil = pupil(learner);
        exists(form, needs.size());
        state(ready(pupil, form) && pupil.lessonsOfDay.getOrDefault(day, 0) < 3);
        grow(pupil, form, gain(pupil, form));
        pupil.lessonsOfDay.merge(day, 1, Integer::sum);
        pupil.lessonsGiven.add(form);
        return Float.floatToIntBits(pupil.of(form));
    }

    public int pass(int days) {
        argument(days >= 1 && days <= 30);
        state(day + days <= 999);
        for (int time = 0; time < days; time++) {
            for (Pupil pupil : pupils) {
                for (int form = 0; form < needs.size(); form++) {
                    pupil.strength.put(form, pupil.of(form) * (known(pupil, form) ? 0.96875f : 0.875f));
                }
            }
            day++;
        }
        return day;
    }

    public int talk(int learner, int bits) {
        Pupil pupil = pupil(learner);
        Set<Integer> set = formSet(bits);
        argument(!set.isEmpty());
        state(!hushed(pupil));
        Set<Integer> wrong = new HashSet<>();
        for (int form : set) {
            if (known(pupil, form)) {
                grow(pupil, form, 0.03125f);
                continue;
            }
            wrong.add(form);
            if (!stone(pupil, form) && pupil.wrongs.merge(form, 1, Integer::sum) == 3) {
                pupil.correctedSinceStone.put(form, 0);
            }
        }
        return bitsOf(wrong);
    }

    public int correct(int learner, int form, int way) {
        Pupil pupil = pupil(learner);
        exists(form, needs.size());
        argument(way >= 0 && way <= 2);
        if (way == 0 && pupil.of(form) >= 0.25f) {
            grow(pupil, form, 0.0625f);
        }
        if (way == 1 && known(pupil, form)) {
            grow(pupil, form, 0.125f);
        }
        if (way == 2) {
            grow(pupil, form, 0.125f);
            pupil.upsetsOfDay.merge(day, 1, Integer::sum);
            if (stone(pupil, form) && pupil.correctedSinceStone.merge(form, 1, Integer::sum) == 2) {
                pupil.correctedSinceStone.remove(form);
                pupil.wrongs.remove(form);
            }
        }
        return Float.floatToIntBits(pupil.of(form));
    }

    public int abroad(int learner, int friends) {
        Pupil pupil = pupil(learner);
        argument(friends >= 0 && friends <= 9);
        List<Integer> readyOnes = new ArrayList<>();
        for (int form = 0; form < needs.size(); form++) {
            if (ready(pupil, form)) {
                readyOnes.add(form);
            }
        }
        for (int form : readyOnes) {
            grow(pupil, form, 0.015625f * friends);
        }
        return levelOf(pupil);
    }

    public boolean keep(int learner) {
        Pupil pupil = pupil(learner);
        boolean was = pupil.note != null;
        pupil.note = new HashMap<>(pupil.strength);
        return was;
    }

    public int back(int learner) {
        Pupil pupil = pupil(learner);
        state(pupil.note != null);
        pupil.strength = new HashMap<>(pupil.note);
        return levelOf(pupil);
    }

    public int text(int bits) {
        Set<Integer> set = formSet(bits);
        argument(!set.isEmpty());
        state(texts.size() < 10);
        texts.add(set);
        return texts.size() - 1;
    }

    private boolean readable(Pupil pupil, int text) {
        int unknown = 0;
        for (int form : texts.get(text)) {
            unknown += known(pupil, form) ? 0 : 1;
        }
        return unknown < 2 && !pupil.textsRead.contains(text);
    }

    public int read(int learner, int text) {
        Pupil pupil = pupil(learner);
        exists(text, texts.size());
        state(readable(pupil, text));
        for (int form : texts.get(text)) {
            grow(pupil, form, 0.0625f);
        }
        pupil.textsRead.add(text);
        return levelOf(pupil);
    }

    public int shelf(int kind) {
        argument(kind >= 0 && kind <= 2);
        state(shelfKinds.size() < 4);
        shelfKinds.add(kind);
        return shelfKinds.size() - 1;
    }

    public boolean put(int shelf, int place, boolean isText, int number) {
        exists(shelf, shelfKinds.size());
        exists(place, 5);
        exists(number, isText ? texts.size() : needs.size());
        int kind = shelfKinds.get(shelf);
        must(kind == 2 || isText == (kind == 0), new ArrayStoreException());
        return things.put(List.of(shelf, place), isText ? number : 100 + number) != null;
    }

    public int item(int eighths) {
        argument(eighths >= -64 && eighths <= 64);
        state(items.size() < 12);
        items.add(eighths / 8f);
        return items.size() - 1;
    }

    public int answer(int learner, boolean isRight) {
        Pupil pupil = pupil(learner);
        int best = -1;
        for (int item = items.size() - 1; item >= 0; item--) {
            boolean isOpen = !pupil.itemsAnswered.contains(item);
            if (isOpen && (best < 0 || distance(pupil, item) <= distance(pupil, best))) {
                best = item;
            }
        }
        state(best >= 0);
        pupil.itemsAnswered.add(best);
        pupil.ability = isRight ? pupil.ability + pupil.step : pupil.ability - pupil.step;
        items.set(best, isRight ? items.get(best) - 0.125f : items.get(best) + 0.125f);
        pupil.step = pupil.step * 0.75f;
        return best;
    }

    private float distance(Pupil pupil, int item) {
        return Math.abs(items.get(item) - pupil.ability);
    }

    public int day() {
        return day;
    }

    public int strength(int learner, int form) {
        Pupil pupil = pupil(learner);
        exists(form, needs.size());
        return Float.floatToIntBits(pupil.of(form));
    }

    public int level(int learner) {
        return levelOf(pupil(learner));
    }

    public int forms(int learner, int what) {
        Pupil pupil = pupil(learner);
        argument(what >= 0 && what <= 3);
        Set<Integer> set = new HashSet<>();
        for (int form = 0; form < needs.size(); form++) {
            boolean[] is = {known(pupil, form), ready(pupil, form), stone(pupil, form), pupil.lessonsGiven.contains(form)};
            if (is[what]) {
                set.add(form);
            }
        }
        return bitsOf(set);
    }

    public boolean isHushed(int learner) {
        return hushed(pupil(learner));
    }

    public int cause(int learner, int form) {
        Pupil pupil = pupil(learner);
        exists(form, needs.size());
        boolean[] causes = {known(pupil, form), !ready(pupil, form), stone(pupil, form),
            transfers.getOrDefault(List.of(pupil.tongue, form), 0) == -1, !pupil.lessonsGiven.contains(form), true};
        int first = 0;
        while (!causes[first]) {
            first++;
        }
        return first;
    }

    public int next(int learner) {
        Pupil pupil = pupil(learner);
        int best = -1;
        long bestWeak = 0;
        for (int text = texts.size() - 1; text >= 0; text--) {
            long weak = texts.get(text).stream().filter(form -> pupil.of(form) < 0.75f).count();
            if (readable(pupil, text) && (best < 0 || weak >= bestWeak)) {
                best = text;
                bestWeak = weak;
            }
        }
        return best;
    }

    public int at(int shelf, int place) {
        exists(shelf, shelfKinds.size());
        exists(place, 5);
        return things.getOrDefault(List.of(shelf, place), -1);
    }

    public int difficulty(int item) {
        exists(item, items.size());
        return Float.floatToIntBits(items.get(item));
    }

    public int ability(int learner) {
        return Float.floatToIntBits(pupil(learner).ability);
    }

    private int costOf(Set<Integer> group) {
        List<Integer> levels = new ArrayList<>();
        for (int each : group) {
            levels.add(levelOf(pupils.get(each)));
        }
        return levels.isEmpty() ? 0 : Collections.max(levels) - Collections.min(levels);
    }

    /** The cost of the best parting, and behind it the first group. */
    private int[] parting(int bits) {
        Set<Integer> all = pupilSet(bits);
        int[] best = null;
        for (int first = 63; first >= 0; first--) {
            Set<Integer> one = setOf(first);
            Set<Integer> other = new HashSet<>(all);
            other.removeAll(one);
            if (all.containsAll(one) && one.size() <= 4 && other.size() <= 4) {
                int cost = costOf(one) + costOf(other);
                if (best == null || cost <= best[0]) {
                    best = new int[] {cost, first};
                }
            }
        }
        return best;
    }

    public int group(int learners) {
        return parting(learners)[1];
    }

    public int cost(int learners) {
        return parting(learners)[0];
    }

    private float totalOf(Pupil pupil) {
        float total = 0f;
        for (int form = 0; form < needs.size(); form++) {
            total = total + pupil.of(form);
        }
        return total;
    }

    /** Fills best with the row, and best's total: rows come in the order of their FORMS. */
    private void rows(Pupil pupil, List<Integer> row, int lessons, List<Integer> best, float[] bestTotal) {
        if (row.size() == lessons) {
            if (best.isEmpty() || totalOf(pupil) > bestTotal[0]) {
                best.clear();
                best.addAll(row);
                bestTotal[0] = totalOf(pupil);
            }
            return;
        }
        for (int form = 0; form < needs.size(); form++) {
            if (ready(pupil, form)) {
                Map<Integer, Float> before = new HashMap<>(pupil.strength);
                grow(pupil, form, gain(pupil, form));
                row.add(form);
                rows(pupil, row, lessons, best, bestTotal);
                row.remove(row.size() - 1);
                pupil.strength = before;
            }
        }
    }

    public int plan(int learner, int lessons, int turn) {
        Pupil pupil = pupil(learner);
        argument(lessons >= 1 && lessons <= 3);
        argument(turn >= 0 && turn < lessons);
        List<Integer> best = new ArrayList<>();
        rows(pupil, new ArrayList<>(), lessons, best, new float[1]);
        return best.isEmpty() ? -1 : best.get(turn);
    }

    public int total(int learner, int lessons) {
        Pupil pupil = pupil(learner);
        argument(lessons >= 1 && lessons <= 3);
        List<Integer> best = new ArrayList<>();
        float[] bestTotal = {totalOf(pupil)};
        rows(pupil, new ArrayList<>(), lessons, best, bestTotal);
        return Float.floatToIntBits(bestTotal[0]);
    }

    public int totalAnew(int learner, int lessons) {
        return total(learner, lessons);
    }
}
