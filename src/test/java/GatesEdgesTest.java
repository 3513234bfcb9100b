/** The edges that the promises 11 to 14 name: rules, hands, openings; a test for each sentence. */
public final class GatesEdgesTest {
    private static final String GATE = "`gate`: 0 to 7";
    private static final int NONE = GossipGates.NONE;
    private static final Checks checks = new Checks();

    public static void main(String[] args) {
        promise11();
        promise12();
        promise13();
        promise14();
        checks.end();
    }

    private static void promise11() {
        String place = "Promise 11";
        checks.test(place, GATE, () -> {
            GossipGates x = Scenes.calm(Scenes.all(30));
            checks.range("setRule, gate", 0, 7, gate -> x.setRule(gate, 31, 40, 80, 100));
            for (int gate = 0; gate < 8; gate++) {
                x.byHand(gate, 5);
                x.byHand(gate, NONE);
            }
            x.tick(1);
            for (int gate = 0; gate < 8; gate++) {
                int due = gate % 7 == 0 ? 4 : 5;
                checks.equal("the rule of the gate " + gate, x.opening(gate), due);
            }
        });
        checks.test(place, "`low`: 0 to 1000", GatesEdgesTest::lows);
        checks.test(place, "`high`: low to 1000", GatesEdgesTest::highs);
        checks.test(place, "`bound`: 0 to 1000", GatesEdgesTest::bounds);
        checks.test(place, "`age`: 0 to 100", GatesEdgesTest::ages);
    }

    private static void lows() {
        GossipGates x = new GossipGates();
        checks.range("setRule, low", 0, 1000, low -> x.setRule(7, low, 1000, 0, 0));
        for (int wrong : Checks.outside(0, 1000)) {
            checks.argument("low and high " + wrong, () -> x.setRule(7, wrong, wrong, 0, 0));
        }
        GossipGates empty = Scenes.shutRiver();
        empty.setRule(7, 0, 1000, 0, 0);
        checks.equal("an empty reach is not below 0", Scenes.ruledOnce(empty, 7, 5), 5);
        empty.setRule(7, 1, 1000, 0, 0);
        checks.equal("but below 1", Scenes.ruledOnce(empty, 7, 5), 4);
        GossipGates full = fullOf1000();
        full.setRule(7, 1000, 1000, 0, 0);
        checks.equal("a full reach is not below 1000", Scenes.ruledOnce(full, 7, 5), 5);
        full.tick(1);
        checks.equal("but one that is not full is", full.opening(7), 4);
    }

    /** The reach 7 is full after the next tick, if no more than 100 flow through its gate. */
    private static GossipGates fullOf1000() {
        GossipGates x = Scenes.calm(Scenes.all(1000));
        x.rain(7, 100);
        return x;
    }

    private static void highs() {
        GossipGates x = new GossipGates();
        checks.range("setRule, high of low 0", 0, 1000, high -> x.setRule(7, 0, high, 0, 0));
        checks.range("setRule, high of low 30", 30, 1000, high -> x.setRule(7, 30, high, 0, 0));
        checks.range("setRule, high of low 1000", 1000, 1000,
            high -> x.setRule(7, 1000, high, 0, 0));
        GossipGates empty = Scenes.shutRiver();
        empty.setRule(7, 0, 0, 0, 0);
        checks.equal("an empty reach is not above 0", Scenes.ruledOnce(empty, 7, 5), 5);
        // Of these 25 flow through the gate.
        empty.rain(7, 35);
        checks.equal("the level 1 is", Scenes.ruledOnce(empty, 7, 5), 6);
        GossipGates full = fullOf1000();
        full.setRule(7, 0, 1000, 0, 0);
        checks.equal("a full reach is not above 1000", Scenes.ruledOnce(full, 7, 5), 5);
        full.setRule(7, 0, 999, 0, 0);
        full.rain(7, 100);
        checks.equal("but above 999", Scenes.ruledOnce(full, 7, 5), 6);
        GossipGates same = Scenes.calm(Scenes.all(30));
        same.setRule(7, 30, 30, 0, 0);
        checks.equal("low and high as the level", Scenes.ruledOnce(same, 7, 5), 5);
    }

    private static void bounds() {
        GossipGates x = new GossipGates();
        checks.range("setRule, bound", 0, 1000, bound -> x.setRule(0, 20, 40, bound, 5));
        GossipGates empty = Scenes.calm(Scenes.allBut(50, 1, 0));
        empty.setRule(0, 20, 40, 0, 100);
        checks.equal("an empty next reach is not below 0", Scenes.ruledOnce(empty, 0, 5), 5);
        empty.setRule(0, 20, 40, 1, 100);
        checks.equal("but below 1", Scenes.ruledOnce(empty, 0, 5), 6);
        GossipGates full = Scenes.calm(Scenes.allBut(50, 7, 1000));
        full.setRule(6, 20, 40, 1000, 100);
        checks.equal("a full next reach is not below 1000", Scenes.ruledOnce(full, 6, 5), 5);
        GossipGates nearly = Scenes.calm(Scenes.allBut(50, 7, 999));
        nearly.setRule(6, 20, 40, 1000, 100);
        checks.equal("but 999 is", Scenes.ruledOnce(nearly, 6, 5), 6);
    }

    private static void ages() {
        GossipGates x = new GossipGates();
        checks.range("setRule, age", 0, 100, age -> x.setRule(0, 20, 40, 80, age));
        GossipGates least = Scenes.calm(Scenes.all(30));
        least.setRule(0, 20, 40, 80, 0);
        checks.equal("the least", Scenes.ruledOnce(least, 0, 5), 5);
        checks.equal("by news of now, as it got them in the tick 21", least.age(0, 1), 0);
        least.setGroup(0, 1);
        least.tick(1);
        checks.equal("not by those of the tick before", least.opening(0), 7);
        for (int gate = 0; gate < 7; gate += 6) {
            GossipGates greatest = Scenes.aged(gate, 100, Scenes.all(30));
            greatest.setRule(gate, 20, 40, 80, 100);
            checks.equal("the greatest", Scenes.ruledOnce(greatest, gate, 5), 5);
            greatest.tick(1);
            checks.equal("and one more", greatest.opening(gate), 7);
        }
    }

    private static void promise12() {
        String place = "Promise 12";
        checks.test(place, GATE, () -> {
            GossipGates x = new GossipGates();
            checks.range("byHand, gate", 0, 7, gate -> x.byHand(gate, 3));
            for (int gate = 0; gate < 8; gate++) {
                checks.equal("the gate " + gate, x.opening(gate), gate % 7 == 0 ? 3 : 0);
            }
        });
        checks.test(place, "`opening`: 0 to 10, which it has then", () -> {
            GossipGates x = new GossipGates();
            checks.refused("byHand, opening", NONE, 10, opening -> x.byHand(7, opening));
            checks.equal("as before", x.opening(7), 0);
            for (int opening = 10; opening >= 0; opening -= 10) {
                x.byHand(7, opening);
                checks.equal("at once", x.opening(7), opening);
                x.tick(3);
                checks.equal("and it stays", x.opening(7), opening);
            }
        });
        checks.test(place, "NONE to give it back, with the opening that it has", () -> {
            for (int opening = 0; opening <= 10; opening++) {
                GossipGates x = Scenes.onlyUp(7);
                x.byHand(7, opening);
                x.byHand(7, NONE);
                checks.equal("the opening that it has", x.opening(7), opening);
                x.tick(1);
                checks.equal("and its member rules it", x.opening(7), Math.max(opening - 1, 0));
            }
        });
        checks.test(place, "Takes a gate into a hand, or gives it back to its member.", () -> {
            GossipGates x = Scenes.onlyUp();
            checks.taken("the member is down", () -> x.byHand(0, 10));
            checks.taken("in a hand already", () -> x.byHand(0, 1));
            checks.taken("given back, the member is down", () -> x.byHand(0, NONE));
            checks.equal("opening", x.opening(0), 1);
        });
        checks.test(place, "Returns the opening before.", () -> {
            GossipGates x = new GossipGates();
            checks.equal("at first", x.byHand(0, 10), 0);
            checks.equal("the greatest", x.byHand(0, 0), 10);
            checks.equal("the least", x.byHand(0, 9), 0);
            checks.equal("of one that is given back", x.byHand(0, NONE), 9);
            checks.equal("that it has still", x.byHand(0, 0), 9);
            GossipGates ruled = Scenes.onlyUp(0);
            ruled.tick(1);
            checks.equal("as its member had ruled it", ruled.byHand(0, 0), 2);
        });
        checks.test(place, "Throws `IllegalStateException` if opening is NONE, and no hand has it",
            GatesEdgesTest::noHandHasIt);
        String outOfRange = "Throws `IllegalArgumentException` if an argument is out of range";
        checks.test(place, outOfRange, () -> {
            GossipGates x = new GossipGates();
            checks.argument("-1, though no hand has it", () -> x.byHand(-1, NONE));
            checks.argument("8, though no hand has it", () -> x.byHand(8, NONE));
            checks.argument("both", () -> x.byHand(8, 11));
        });
    }

    private static void noHandHasIt() {
        for (int gate = 0; gate < 8; gate += 7) {
            int one = gate;
            GossipGates x = new GossipGates();
            checks.state("at first", () -> x.byHand(one, NONE));
            x.byHand(7 - gate, 4);
            checks.state("another gate is in one", () -> x.byHand(one, NONE));
            x.byHand(gate, 0);
            checks.taken("in a hand, shut", () -> x.byHand(one, NONE));
            checks.state("given back", () -> x.byHand(one, NONE));
            x.tick(3);
            checks.state("ruled", () -> x.byHand(one, NONE));
            x.fall(gate);
            checks.state("the member is down", () -> x.byHand(one, NONE));
        }
    }

    private static void promise13() {
        checks.test("Promise 13", GATE, () -> {
            GossipGates x = new GossipGates();
            checks.range("opening", 0, 7, gate -> x.opening(gate));
        });
        checks.test("Promise 13", "Returns the opening of a gate.", () -> {
            GossipGates x = Scenes.onlyUp(0, 7);
            x.rain(7, 1000);
            checks.equal("0 at first", x.opening(0), 0);
            x.tick(10);
            checks.equal("10 at most, the gate 0", x.opening(0), 10);
            x.shape(7, 1, 1000);
            x.setGauge(7, 1);
            x.rain(7, 1000);
            x.tick(10);
            checks.equal("10 at most, the gate 7", x.opening(7), 10);
            x.setRule(7, 1000, 1000, 0, 0);
            x.tick(11);
            checks.equal("0 at least", x.opening(7), 0);
        });
    }

    private static void promise14() {
        checks.test("Promise 14", GATE, () -> {
            GossipGates x = new GossipGates();
            checks.range("safety", 0, 7, gate -> x.safety(gate));
        });
        checks.test("Promise 14", "Returns how often a gate has opened for safety.", () -> {
            GossipGates x = Scenes.onlyUp(0, 6, 7);
            x.setGroup(0, 1);
            checks.equal("never at first", x.safety(0), 0);
            x.byHand(0, 10);
            x.tick(1);
            checks.equal("not in a hand", x.safety(0), 0);
            x.byHand(0, NONE);
            x.tick(1);
            checks.equal("though it is 10 already", x.safety(0), 1);
            x.fall(0);
            x.tick(1);
            checks.equal("not when its member is down", x.safety(0), 1);
            x.comeUp(0);
            x.tick(97);
            checks.equal("in each tick", x.safety(0), 98);
            checks.equal("the gate 7 has no next reach", x.safety(7), 0);
            checks.equal("those of members that are down", x.safety(1), 0);
        });
        checks.test("Promise 14", "Returns how often a gate has opened for safety.", () -> {
            GossipGates x = Scenes.aged(6, 5, Scenes.all(50));
            checks.equal("news as old as allowed: 1 more", Scenes.ruledOnce(x, 6, 5), 6);
            checks.equal("is not for safety", x.safety(6), 0);
            x.tick(1);
            checks.equal("news one tick older", x.safety(6), 1);
        });
    }
}
