/** What the tests ask with. */
final class Check {

    private Check() {
    }

    interface Call {
        void run();
    }

    static void equal(String what, long want, long got) {
        if (want != got) {
            throw new AssertionError(what + ": due is " + want + ", answered " + got);
        }
    }

    static void equal(String what, double want, double got) {
        if (!(want == got)) {
            throw new AssertionError(what + ": due is " + want + ", answered " + got);
        }
    }

    static void equal(String what, String want, String got) {
        if (!want.equals(got)) {
            throw new AssertionError(what + ":\n  due is   " + want + "\n  answered " + got);
        }
    }

    static void yes(String what, boolean got) {
        if (!got) {
            throw new AssertionError(what + ": due is true");
        }
    }

    static void no(String what, boolean got) {
        if (got) {
            throw new AssertionError(what + ": due is false");
        }
    }

    /** The class must be the very one: an exception of the Java machine is of a class below it. */
    static void fails(Class<? extends RuntimeException> due, String what, SailorCandles x, Call call) {
        String before = Answers.inShort(x);
        Class<?> thrown = null;
        try {
            call.run();
        } catch (RuntimeException e) {
            thrown = e.getClass();
        }
        if (thrown != due) {
            throw new AssertionError(what + ": due is " + due.getSimpleName() + ", thrown was " + thrown);
        }
        equal(what + " must change nothing", before, Answers.inShort(x));
    }

    static void noIndex(String what, SailorCandles x, Call call) {
        fails(IndexOutOfBoundsException.class, what, x, call);
    }

    static void noState(String what, SailorCandles x, Call call) {
        fails(IllegalStateException.class, what, x, call);
    }

    static void noArgument(String what, SailorCandles x, Call call) {
        fails(IllegalArgumentException.class, what, x, call);
    }
}
