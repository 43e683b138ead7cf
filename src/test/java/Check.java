/** Counts answers that are not due; every test ends by calling end. */
final class Check {
    /** A call that may throw. */
    interface Call {
        long answer();
    }

    /** A call without an answer that may throw. */
    interface Deed {
        void run();
    }

    private static int done = 0;
    private static int wrong = 0;

    private Check() {
    }

    static void same(String what, Object got, Object due) {
        done++;
        if (!due.equals(got)) {
            wrong++;
            System.out.println(what + ": answered " + got + ", due is " + due);
        }
    }

    static void is(String what, long got, long due) {
        same(what, got, due);
    }

    static void yes(String what, boolean got) {
        same(what, got, true);
    }

    static void no(String what, boolean got) {
        same(what, got, false);
    }

    static void badArgument(String what, Deed deed) {
        same(what, thrownBy(deed), "throws.IllegalArgumentException");
    }

    static void badState(String what, Deed deed) {
        same(what, thrownBy(deed), "throws.IllegalStateException");
    }

    static void badIndex(String what, Deed deed) {
        same(what, thrownBy(deed), "throws.IndexOutOfBoundsException");
    }

    static String thrownBy(Deed deed) {
        return outcome(() -> {
            deed.run();
            return 0;
        });
    }

    static String outcome(Call call) {
        try {
            return Long.toString(call.answer());
        } catch (RuntimeException e) {
            return "throws." + e.getClass().getSimpleName();
        }
    }

    static void end() {
        System.out.println(done + " checks, " + wrong + " wrong");
        if (wrong != 0 || done == 0) {
            System.exit(1);
        }
    }
}
