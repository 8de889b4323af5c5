import java.util.function.IntConsumer;

/** What tests say: a wrong answer ends the test with an AssertionError that tells the call. */
final class Check {
    /** Wrong numbers that a shift, a byte or a sign could make right ones. */
    private static final int[] FAR = {Integer.MIN_VALUE, Integer.MIN_VALUE + 1, -256, -32, 32, 64, 256, 65536,
        Integer.MAX_VALUE - 1, Integer.MAX_VALUE};

    private Check() {
    }

    static void same(String what, long want, long got) {
        if (want != got) {
            throw new AssertionError(what + ": due is " + want + ", answered was " + got);
        }
    }

    static void same(String what, boolean want, boolean got) {
        same(what, want ? 1 : 0, got ? 1 : 0);
    }

    /** Tells the first line that differs, with its number. */
    static void same(String what, String want, String got) {
        String[] due = want.split("\n");
        String[] answered = got.split("\n");
        for (int line = 0; line < Math.max(due.length, answered.length); line++) {
            String one = line < due.length ? due[line] : "nothing more";
            String other = line < answered.length ? answered[line] : "nothing more";
            if (!one.equals(other)) {
                throw new AssertionError(what + ", line " + line + ": due is '" + one + "', answered was '" + other + "'");
            }
        }
    }

    static void bits(String what, float want, int got) {
        if (Float.floatToIntBits(want) != got) {
            throw new AssertionError(what + ": due is " + want + ", answered was " + Float.intBitsToFloat(got));
        }
    }

    static void differ(String what, float one, float other) {
        if (one == other) {
            throw new AssertionError(what + ": the test should compare two floats, both are " + one);
        }
    }

    /** Each call throws exactly this class, and no later call shows that they were made. */
    static void refused(Class<? extends RuntimeException> want, School school, Runnable... calls) {
        for (Runnable call : calls) {
            thrown(want, school, call);
        }
        LaterCalls.showNoRefusedCall(school);
    }

    private static void thrown(Class<? extends RuntimeException> want, School school, Runnable call) {
        int before = school.callCount();
        Class<?> got = null;
        try {
            call.run();
        } catch (RuntimeException e) {
            got = e.getClass();
        }
        if (got != want) {
            throw new AssertionError("due is " + want + ", thrown was " + got);
        }
        same("calls made of the school", before + 1, school.callCount());
    }

    static void noSuch(School school, Runnable... calls) {
        refused(IndexOutOfBoundsException.class, school, calls);
    }

    static void badArgument(School school, Runnable... calls) {
        refused(IllegalArgumentException.class, school, calls);
    }

    static void badState(School school, Runnable... calls) {
        refused(IllegalStateException.class, school, calls);
    }

    static void wrongKind(School school, Runnable... calls) {
        refused(ArrayStoreException.class, school, calls);
    }

    /** There are so many of a kind, from 0 on: the numbers just outside and far outside are none. */
    static void noSuchBeyond(School school, int count, IntConsumer call) {
        beyond(IndexOutOfBoundsException.class, school, 0, count - 1, call);
    }

    /** The numbers just outside and far outside of these bounds are out of range. */
    static void badBeyond(School school, int least, int greatest, IntConsumer call) {
        beyond(IllegalArgumentException.class, school, least, greatest, call);
    }

    private static void beyond(Class<? extends RuntimeException> want, School school, int least, int greatest,
            IntConsumer call) {
        thrown(want, school, () -> call.accept(least - 1));
        thrown(want, school, () -> call.accept(greatest + 1));
        for (int number : FAR) {
            if (number < least || number > greatest) {
                thrown(want, school, () -> call.accept(number));
            }
        }
        LaterCalls.showNoRefusedCall(school);
    }

    /** Sets with one that is not there, alone and with all that are; the bit 31 too. */
    static void badSets(School school, int count, IntConsumer call) {
        int all = (1 << count) - 1;
        for (int bit = count; bit < 32; bit++) {
            int set = 1 << bit;
            thrown(IllegalArgumentException.class, school, () -> call.accept(set));
            if (bit == count || bit == 31) {
                thrown(IllegalArgumentException.class, school, () -> call.accept(set | all));
            }
        }
        thrown(IllegalArgumentException.class, school, () -> call.accept(-1));
        thrown(IllegalArgumentException.class, school, () -> call.accept(Integer.MAX_VALUE));
        LaterCalls.showNoRefusedCall(school);
    }
}
