/** Counts answers that are not due; every test ends by calling end. */
final class Check {
    /** A call that may throw. */
    interface Call {
        long answer();
    }

    /** A call without an answer that may throw. */
    interface Deed {
        void run();
    }

    private static final String THROWS = "throws.";

    private static String sentence = "";
    private static int sentences = 0;
    private static int done = 0;
    private static int wrong = 0;

    private Check() {
    }

    /** The test of one sentence of the document, whose words stand before each wrong answer. */
    static void sentence(String words, Deed test) {
        int before = done;
        sentence = "\"" + words + "\": ";
        sentences++;
        String end = thrownBy(test);
        if (done == before || end.startsWith(THROWS)) {
            same("its test", end.startsWith(THROWS) ? end : "checked nothing", "ended");
        }
        sentence = "";
    }

    static void same(String what, Object got, Object due) {
        done++;
        if (!due.equals(got)) {
            wrong++;
            System.out.println(sentence + what + ": answered " + got + ", due is " + due);
        }
    }

    static void is(String what, long got, long due) {
        same(what, got, due);
    }

    static void yes(String what, boolean got) {
        same(what, got, true);
    }

    static void no(String what, boolean got) {
        same(what, got, false);
    }

    static void badArgument(String what, Deed deed) {
        same(what, thrownBy(deed), "throws.IllegalArgumentException");
    }

    static void badState(String what, Deed deed) {
        same(what, thrownBy(deed), "throws.IllegalStateException");
    }

    static void badIndex(String what, Deed deed) {
        same(what, thrownBy(deed), "throws.IndexOutOfBoundsException");
    }

    static String thrownBy(Deed deed) {
        return outcome(() -> {
            deed.run();
            return 0;
        });
    }

    static String outcome(Call call) {
        try {
            return Long.toString(call.answer());
        } catch (RuntimeException e) {
            return THROWS + e.getClass().getSimpleName();
        }
    }

    static void end() {
        String of = sentences == 0 ? "" : " of " + sentences + " sentences";
        System.out.println(done + " checks" + of + ", " + wrong + " wrong");
        if (wrong != 0 || done == 0) {
            System.exit(1);
        }
    }
}
