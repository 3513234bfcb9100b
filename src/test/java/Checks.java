/** Counts and prints the answers that are not as due. */
final class Checks {
    interface Call {
        void run();
    }

    private int wrong = 0;
    private int made = 0;

    void equal(String what, long got, long want) {
        made++;
        if (got != want) {
            tell(what + " answered " + got + ", due is " + want);
        }
    }

    void isTrue(String what, boolean holds) {
        made++;
        if (!holds) {
            tell(what + " does not hold");
        }
    }

    void argument(String what, Call call) {
        thrown(what, call, IllegalArgumentException.class);
    }

    void state(String what, Call call) {
        thrown(what, call, IllegalStateException.class);
    }

    private void thrown(String what, Call call, Class<?> due) {
        made++;
        try {
            call.run();
            tell(what + " threw nothing, due is " + due.getSimpleName());
        } catch (RuntimeException e) {
            if (e.getClass() != due) {
                tell(what + " threw " + e + ", due is " + due.getSimpleName());
            }
        }
    }

    private void tell(String text) {
        wrong++;
        if (wrong <= 50) {
            System.out.println(text);
        }
    }

    void end() {
        System.out.println(made + " checks, " + wrong + " not as due");
        if (wrong != 0) {
            System.exit(1);
        }
    }

    static final int[] NOT_A_NUMBER = {-1, 8, 9, 100, Integer.MIN_VALUE, Integer.MAX_VALUE};

    /** A river whose gates are all shut and in hands, so that water moves by spilling alone. */
    static GossipGates shutRiver() {
        GossipGates x = new GossipGates();
        for (int gate = 0; gate < 8; gate++) {
            x.byHand(gate, 0);
        }
        return x;
    }

    /** A river whose members are all down, but for one. */
    static GossipGates lonely(int member) {
        GossipGates x = new GossipGates();
        for (int other = 0; other < 8; other++) {
            if (other != member) {
                x.fall(other);
            }
        }
        return x;
    }
}
