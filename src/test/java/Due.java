/** Counts and prints the calls whose answer is not the one that is due. */
final class Due {
    /** A call that may throw; its answer as a long (a boolean counts 1 or 0). */
    interface Call {
        long answer();
    }

    /** A call without an answer. */
    interface Deed {
        void go();
    }

    private final String test;
    private int calls = 0;
    private int wrong = 0;

    Due(String test) {
        this.test = test;
    }

    void answer(String what, long got, long want) {
        text(what, Long.toString(got), Long.toString(want));
    }

    void answer(String what, boolean got, boolean want) {
        text(what, Boolean.toString(got), Boolean.toString(want));
    }

    void text(String what, String got, String want) {
        calls++;
        if (!got.equals(want)) {
            wrong++;
            if (wrong <= 50) {
                System.out.println(test + ": " + what + " answered " + got + ", due is " + want);
            }
        }
    }

    void thrown(String what, Class<? extends RuntimeException> want, Deed deed) {
        text(what, outcome(() -> {
            deed.go();
            return 0;
        }), "throws." + want.getSimpleName());
    }

    void passes(String what, Deed deed) {
        text(what, outcome(() -> {
            deed.go();
            return 0;
        }), "0");
    }

    static String outcome(Call call) {
        try {
            return Long.toString(call.answer());
        } catch (RuntimeException e) {
            return "throws." + e.getClass().getSimpleName();
        }
    }

    void finish() {
        System.out.println(test + ": " + calls + " answers, " + wrong + " of them not as due");
        if (wrong != 0) {
            System.exit(1);
        }
    }
}
