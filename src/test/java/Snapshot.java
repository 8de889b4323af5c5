/** All that a school answers without being changed, as one text. */
final class Snapshot {
    private static final int MOST = 12;

    private Snapshot() {
    }

    static String of(TongueSchool school) {
        StringBuilder text = new StringBuilder();
        text.append("day ").append(school.day()).append('\n');
        for (int learner = 0; learner < MOST; learner++) {
            int number = learner;
            line(text, "level", () -> school.level(number));
            line(text, "hushed", () -> school.isHushed(number) ? 1 : 0);
            line(text, "next", () -> school.next(number));
            line(text, "ability", () -> school.ability(number));
            for (int what = 0; what < 4; what++) {
                int which = what;
                line(text, "forms", () -> school.forms(number, which));
            }
            for (int form = 0; form < MOST; form++) {
                int which = form;
                line(text, "strength", () -> school.strength(number, which));
                line(text, "cause", () -> school.cause(number, which));
            }
            line(text, "total", () -> school.total(number, 2));
            line(text, "plan", () -> school.plan(number, 2, 0) * 100 + school.plan(number, 2, 1));
        }
        for (int number = 0; number < MOST; number++) {
            int which = number;
            line(text, "difficulty", () -> school.difficulty(which));
            for (int place = 0; place < 5; place++) {
                int there = place;
                line(text, "at", () -> school.at(which, there));
            }
            for (int tongue = 0; tongue < 4; tongue++) {
                int spoken = tongue;
                line(text, "transfer", () -> bearing(school, spoken, which));
            }
        }
        for (int set = 0; set < 64; set++) {
            int which = set;
            line(text, "group", () -> school.group(which) * 100 + school.cost(which));
        }
        return text.toString();
    }

    /** A bearing can be read by changing it alone, so it is put back at once. */
    private static int bearing(TongueSchool school, int tongue, int form) {
        int how = school.transfer(tongue, form, 0);
        school.transfer(tongue, form, how);
        return how;
    }

    private interface Question {
        int ask();
    }

    private static void line(StringBuilder text, String name, Question question) {
        text.append(name).append(' ');
        try {
            text.append(question.ask());
        } catch (RuntimeException e) {
            text.append(e.getClass().getName());
        }
        text.append('\n');
    }
}
