/** What tests say: a wrong answer ends the test with an AssertionError that tells the call. */
final class Check {
    private Check() {
    }

    static void same(String what, long want, long got) {
        if (want != got) {
            throw new AssertionError(what + ": due is " + want + ", answered was " + got);
        }
    }

    static void same(String what, boolean want, boolean got) {
        same(what, want ? 1 : 0, got ? 1 : 0);
    }

    static void same(String what, String want, String got) {
        if (!want.equals(got)) {
            throw new AssertionError(what + ": due is\n" + want + "\nanswered was\n" + got);
        }
    }

    static void bits(String what, float want, int got) {
        if (Float.floatToIntBits(want) != got) {
            throw new AssertionError(what + ": due is " + want + ", answered was " + Float.intBitsToFloat(got));
        }
    }

    /** The call throws exactly this class, and what the school answers is the same behind it. */
    static void refused(Class<? extends RuntimeException> want, TongueSchool school, Runnable call) {
        String before = Snapshot.of(school);
        Class<?> got = null;
        try {
            call.run();
        } catch (RuntimeException e) {
            got = e.getClass();
        }
        if (got != want) {
            throw new AssertionError("due is " + want + ", thrown was " + got);
        }
        same("what stands behind a call that throws", before, Snapshot.of(school));
    }

    static void noSuch(TongueSchool school, Runnable call) {
        refused(IndexOutOfBoundsException.class, school, call);
    }

    static void badArgument(TongueSchool school, Runnable call) {
        refused(IllegalArgumentException.class, school, call);
    }

    static void badState(TongueSchool school, Runnable call) {
        refused(IllegalStateException.class, school, call);
    }
}
