/** Counts and prints the answers that are not as due. */
final class Checks {
    interface Call {
        void run();
    }

    interface CallWith {
        void run(int value);
    }

    private static final int MOST_LINES = 50;

    private int wrong = 0;
    private int made = 0;
    private int tests = 0;
    private String head = "";

    /**
     * Runs the test of one sentence of the document, named by its place and its words, so that what
     * it tells is told of that sentence, and what it throws ends it alone.
     */
    void test(String place, String sentence, Call body) {
        tests++;
        head = place + ", \"" + sentence + "\": ";
        int before = made;
        try {
            body.run();
        } catch (RuntimeException e) {
            tell("threw " + e);
        }
        if (made == before) {
            tell("checks nothing");
        }
        head = "";
    }

    void equal(String what, long got, long want) {
        made++;
        if (got != want) {
            tell(what + " answered " + got + ", due is " + want);
        }
    }

    void isTrue(String what, boolean holds) {
        made++;
        if (!holds) {
            tell(what + " does not hold");
        }
    }

    void argument(String what, Call call) {
        thrown(what, call, IllegalArgumentException.class);
    }

    void state(String what, Call call) {
        thrown(what, call, IllegalStateException.class);
    }

    /** The values just outside are refused, and the first and the last one are taken. */
    void range(String what, int least, int most, CallWith call) {
        refused(what, least, most, call);
        taken(what + " " + least, () -> call.run(least));
        taken(what + " " + most, () -> call.run(most));
    }

    void refused(String what, int least, int most, CallWith call) {
        for (int wrong : outside(least, most)) {
            argument(what + " " + wrong, () -> call.run(wrong));
        }
    }

    void taken(String what, Call call) {
        made++;
        try {
            call.run();
        } catch (RuntimeException e) {
            tell(what + " threw " + e + ", due is nothing");
        }
    }

    static int[] outside(int least, int most) {
        return new int[] {least - 1, most + 1, Integer.MIN_VALUE, Integer.MAX_VALUE};
    }

    void thrown(String what, Call call, Class<?> due) {
        made++;
        try {
            call.run();
            tell(what + " threw nothing, due is " + due.getSimpleName());
        } catch (RuntimeException e) {
            if (e.getClass() != due) {
                tell(what + " threw " + e + ", due is " + due.getSimpleName());
            }
        }
    }

    private void tell(String text) {
        wrong++;
        if (wrong <= MOST_LINES) {
            System.out.println(head + text);
        }
    }

    void end() {
        String told = tests == 0 ? "" : tests + " tests, ";
        System.out.println(told + made + " checks, " + wrong + " not as due");
        if (wrong != 0) {
            System.exit(1);
        }
    }

    static final int[] NOT_A_NUMBER = {-1, 8, 9, 100, Integer.MIN_VALUE, Integer.MAX_VALUE};
}
