/** Promises 11 to 14: rules, hands, openings and safety. */
public final class GatesTest {
    private static final Checks checks = new Checks();

    public static void main(String[] args) {
        promise11RuleAtFirst();
        promise11SetRule();
        promise11Bound();
        promise11Age();
        promise11Wrong();
        promise12ByHand();
        promise12Wrong();
        promise13Opening();
        promise14Safety();
        checks.end();
    }

    /** The gate 7 with this opening and level, by its own rule, after one tick. */
    private static int lastGateAfter(GossipGates x, int opening, int level) {
        x.shape(7, 100, 1000);
        x.setGauge(7, 1);
        int flow = opening;
        int missing = level * 100 + flow - x.volume(7);
        while (missing > 0) {
            int drop = Math.min(missing, 10000);
            x.rain(7, drop);
            missing -= drop;
        }
        x.byHand(7, opening);
        x.byHand(7, GossipGates.NONE);
        x.tick(1);
        checks.equal("level of the reach 7", x.level(7), level);
        return x.opening(7);
    }

    private static void promise11RuleAtFirst() {
        checks.equal("above 40", lastGateAfter(new GossipGates(), 5, 41), 6);
        checks.equal("40", lastGateAfter(new GossipGates(), 5, 40), 5);
        checks.equal("20", lastGateAfter(new GossipGates(), 5, 20), 5);
        checks.equal("below 20", lastGateAfter(new GossipGates(), 5, 19), 4);
        checks.equal("10 at most", lastGateAfter(new GossipGates(), 10, 41), 10);
        checks.equal("0 at least", lastGateAfter(new GossipGates(), 0, 19), 0);
        checks.equal("no bound counts", lastGateAfter(new GossipGates(), 5, 500), 6);
    }

    private static void promise11SetRule() {
        GossipGates x = new GossipGates();
        x.setRule(7, 7, 7, 0, 0);
        checks.equal("high 7", lastGateAfter(x, 5, 8), 6);
        GossipGates y = new GossipGates();
        y.setRule(7, 7, 7, 0, 0);
        checks.equal("low and high", lastGateAfter(y, 5, 7), 5);
        GossipGates z = new GossipGates();
        z.setRule(7, 7, 7, 0, 0);
        checks.equal("low 7", lastGateAfter(z, 5, 6), 4);
        GossipGates least = new GossipGates();
        least.setRule(7, 0, 0, 0, 0);
        checks.equal("never below 0", lastGateAfter(least, 5, 0), 5);
        GossipGates most = new GossipGates();
        most.setRule(7, 1000, 1000, 1000, 100);
        checks.equal("1000 is not below", lastGateAfter(most, 5, 1000), 5);
        GossipGates other = new GossipGates();
        other.setRule(6, 0, 0, 0, 0);
        checks.equal("the rule of another gate", lastGateAfter(other, 5, 30), 5);
    }

    /** Ticks until the gate 0 has fresh news, with its reach at 50 and the next one at a level. */
    private static GossipGates twoReaches(int nextLevel) {
        GossipGates x = Scenes.shutRiver();
        x.shape(0, 100, 1000);
        x.shape(1, 100, 1000);
        x.rain(0, 5050);
        x.rain(1, nextLevel * 100);
        x.tick(20);
        checks.equal("news of the next reach", x.believed(0, 1), nextLevel);
        checks.isTrue("news is fresh enough", x.age(0, 1) < 90);
        return x;
    }

    private static void promise11Bound() {
        GossipGates below = twoReaches(79);
        below.setRule(0, 20, 40, 80, 100);
        below.byHand(0, -1);
        below.tick(1);
        checks.equal("below the bound", below.opening(0), 1);
        GossipGates at = twoReaches(80);
        at.setRule(0, 20, 40, 80, 100);
        at.byHand(0, -1);
        at.tick(1);
        checks.equal("at the bound", at.opening(0), 0);
        at.setRule(0, 20, 40, 81, 100);
        at.tick(1);
        checks.equal("below the new bound", at.opening(0), 1);
        at.setRule(0, 60, 70, 0, 100);
        at.tick(1);
        checks.equal("below low, whatever the bound", at.opening(0), 0);
        GossipGates first = twoReaches(79);
        checks.isTrue("age at first is enough here", first.age(0, 1) < 5);
        first.byHand(0, -1);
        first.tick(1);
        checks.equal("bound 80 at first, below", first.opening(0), 1);
        GossipGates second = twoReaches(80);
        second.byHand(0, -1);
        second.tick(1);
        checks.equal("bound 80 at first, at it", second.opening(0), 0);
    }

    /** The member 1 is down: its news grows older by 1 in each tick. */
    private static void checkAges(int ruleAge, boolean isTold) {
        GossipGates x = twoReaches(30);
        if (isTold) {
            x.setRule(0, 20, 40, 80, ruleAge);
        }
        x.fall(1);
        x.byHand(0, -1);
        x.setGauge(0, 1);
        x.setSource(10);
        int opening = x.opening(0);
        int safety = x.safety(0);
        for (int i = 0; i < ruleAge + 10; i++) {
            x.tick(1);
            int age = x.age(0, 1);
            boolean isOld = age > ruleAge;
            opening = Math.min(10, opening + (isOld ? 2 : 1));
            safety += isOld ? 1 : 0;
            checks.equal("opening, age " + age, x.opening(0), opening);
            checks.equal("safety, age " + age, x.safety(0), safety);
        }
        checks.isTrue("it grew old", x.safety(0) > 0);
    }

    private static void promise11Age() {
        checkAges(5, false);
        checkAges(5, true);
        checkAges(0, true);
        checkAges(1, true);
        checkAges(30, true);
        checkAges(100, true);
    }

    private static void promise11Wrong() {
        GossipGates x = new GossipGates();
        for (int wrong : Checks.NOT_A_NUMBER) {
            checks.argument("setRule gate " + wrong, () -> x.setRule(wrong, 20, 40, 80, 5));
        }
        checks.argument("low -1", () -> x.setRule(7, -1, 1, 1, 1));
        checks.argument("low 1001", () -> x.setRule(7, 1001, 1001, 1, 1));
        checks.argument("low 1001 alone", () -> x.setRule(7, 1001, 1000, 1, 1));
        checks.argument("high below low", () -> x.setRule(7, 5, 4, 1, 1));
        checks.argument("high 1001", () -> x.setRule(7, 5, 1001, 1, 1));
        checks.argument("bound -1", () -> x.setRule(7, 5, 5, -1, 1));
        checks.argument("bound 1001", () -> x.setRule(7, 5, 5, 1001, 1));
        checks.argument("age -1", () -> x.setRule(7, 5, 5, 1, -1));
        checks.argument("age 101", () -> x.setRule(7, 5, 5, 1, 101));
        checks.argument("all least", () -> x.setRule(7, Integer.MIN_VALUE, Integer.MIN_VALUE,
            Integer.MIN_VALUE, Integer.MIN_VALUE));
        checks.equal("wrong rules changed nothing", lastGateAfter(x, 5, 41), 6);
    }

    private static void promise12ByHand() {
        GossipGates x = new GossipGates();
        checks.equal("opening before", x.byHand(0, 7), 0);
        checks.equal("opened", x.opening(0), 7);
        x.tick(10);
        checks.equal("the member does not rule it", x.opening(0), 7);
        checks.equal("nor opens it for safety", x.safety(0), 0);
        checks.equal("again by hand", x.byHand(0, 10), 7);
        checks.equal("shut by hand", x.byHand(0, 0), 10);
        checks.equal("given back", x.byHand(0, GossipGates.NONE), 0);
        checks.equal("with the opening it has", x.opening(0), 0);
        checks.state("given back twice", () -> x.byHand(0, GossipGates.NONE));
        checks.equal("by hand", x.byHand(0, 9), 0);
        checks.equal("given back with 9", x.byHand(0, GossipGates.NONE), 9);
        checks.equal("it has 9", x.opening(0), 9);
        x.fall(1);
        x.tick(20);
        checks.equal("the member rules it again", x.opening(0), 10);
        checks.isTrue("for safety", x.safety(0) > 0);
        x.fall(0);
        checks.equal("by hand, the member down", x.byHand(0, 3), 10);
        checks.equal("given back, the member down", x.byHand(0, GossipGates.NONE), 3);
    }

    private static void promise12Wrong() {
        GossipGates x = new GossipGates();
        for (int wrong : Checks.NOT_A_NUMBER) {
            checks.argument("byHand gate " + wrong, () -> x.byHand(wrong, 5));
            checks.argument("byHand NONE, gate " + wrong, () -> x.byHand(wrong, -1));
        }
        for (int wrong : new int[] {-2, 11, Integer.MIN_VALUE, Integer.MAX_VALUE}) {
            checks.argument("byHand opening " + wrong, () -> x.byHand(2, wrong));
        }
        checks.state("byHand NONE", () -> x.byHand(2, -1));
        checks.equal("wrong hands changed nothing", x.opening(2), 0);
        x.tick(1);
        checks.equal("no hand has it", x.opening(2), 2);
        x.byHand(2, 4);
        checks.argument("byHand opening 11", () -> x.byHand(2, 11));
        checks.argument("byHand opening -2", () -> x.byHand(2, -2));
        x.tick(3);
        checks.equal("the hand still has it", x.opening(2), 4);
    }

    private static void promise13Opening() {
        GossipGates x = new GossipGates();
        x.rain(7, 1000);
        x.tick(1);
        // In the tick 1 only the members 1 and 3 hear of their next reaches: see MembersTest.
        int[] due = {2, 0, 2, 0, 2, 2, 2, 1};
        for (int i = 0; i < 8; i++) {
            checks.equal("opening after the tick 1, gate " + i, x.opening(i), due[i]);
        }
        for (int wrong : Checks.NOT_A_NUMBER) {
            checks.argument("opening " + wrong, () -> x.opening(wrong));
        }
    }

    private static void promise14Safety() {
        GossipGates x = Scenes.onlyUp(3);
        for (int i = 1; i <= 8; i++) {
            x.tick(1);
            checks.equal("no news of the next reach", x.safety(3), i);
            checks.equal("2 more, 10 at most", x.opening(3), Math.min(10, 2 * i));
        }
        checks.equal("the gates of members that are down stay", x.safety(2), 0);
        checks.equal("their openings too", x.opening(2), 0);
        GossipGates odd = Scenes.onlyUp(3);
        odd.byHand(3, 9);
        odd.byHand(3, -1);
        odd.tick(1);
        checks.equal("9 and 2 are 10", odd.opening(3), 10);
        checks.equal("counted", odd.safety(3), 1);
        GossipGates last = Scenes.onlyUp(7);
        last.tick(50);
        checks.equal("nothing is old for the gate 7", last.safety(7), 0);
        for (int wrong : Checks.NOT_A_NUMBER) {
            checks.argument("safety " + wrong, () -> x.safety(wrong));
        }
    }
}
