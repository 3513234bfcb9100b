/** The edges that the promises 1 to 10 name: a new object, the river; a test for each sentence. */
public final class RiverEdgesTest {
    private static final String REACH = "`reach`: 0 to 7";
    private static final String GATE = "`gate`: 0 to 7";
    private static final Checks checks = new Checks();

    public static void main(String[] args) {
        promise1();
        promise2();
        promise3();
        promise4();
        promise5();
        promise6To8();
        promise9And10();
        checks.end();
    }

    private static void promise1() {
        checks.test("Promise 1", "An empty river", () -> {
            GossipGates x = new GossipGates();
            checks.equal("nothing spills", x.tick(1), 0);
            for (int reach = 0; reach < 8; reach++) {
                checks.equal("no volume", x.volume(reach), 0);
                checks.equal("nothing flowed", x.flowed(reach), 0);
                checks.equal("nothing spilled", x.spilled(reach), 0);
            }
        });
        checks.test("Promise 1", "all members are up, in the group 0.", () -> {
            GossipGates x = new GossipGates();
            x.tick(1);
            checks.equal("all call one that is up, in the same group", x.vain(), 0);
            for (int member = 0; member < 8; member++) {
                checks.equal("up", x.version(member, member), 1);
                checks.equal("group", x.setGroup(member, 0), 0);
            }
        });
    }

    private static void promise2() {
        String place = "Promise 2";
        checks.test(place, REACH, () -> {
            GossipGates x = Scenes.shutRiver();
            checks.range("shape, reach", 0, 7, reach -> x.shape(reach, 1, 3));
            x.rain(0, 9);
            x.rain(7, 9);
            checks.equal("the first and the last have it", x.tick(1), 6 + 6);
            checks.equal("the first", x.volume(0), 3);
            checks.equal("the last", x.volume(7), 3);
        });
        checks.test(place, "`area`: 1 to 100", () -> {
            GossipGates x = Scenes.shutRiver();
            x.rain(3, 200);
            x.tick(1);
            checks.refused("shape, area", 1, 100, area -> x.shape(3, area, 1000));
            checks.equal("10 as before", x.level(3), 20);
            x.shape(3, 1, 1000);
            checks.equal("the least", x.level(3), 200);
            x.shape(3, 100, 1000);
            checks.equal("the greatest", x.level(3), 2);
        });
        checks.test(place, "`depth`: 1 to 1000", () -> {
            GossipGates x = Scenes.shutRiver();
            checks.refused("shape, depth", 1, 1000, depth -> x.shape(7, 1, depth));
            x.rain(7, 10000);
            checks.equal("10 * 100 as before", x.tick(1), 9000);
            x.shape(7, 10, 1);
            checks.equal("the least", x.tick(1), 990);
            x.shape(7, 10, 1000);
            Scenes.pour(x, 7, 10001);
            checks.equal("the greatest", x.tick(1), 10 + 1);
        });
        checks.test(place, "Shapes a reach; its volume stays.", () -> {
            GossipGates x = Scenes.shutRiver();
            x.rain(0, 1000);
            x.tick(1);
            x.shape(0, 1, 1);
            checks.equal("above its depth too", x.volume(0), 1000);
            checks.equal("and it has not spilled", x.spilled(0), 0);
            x.shape(0, 100, 1000);
            checks.equal("and after that", x.volume(0), 1000);
            checks.equal("nothing spills", x.tick(1), 0);
            x.shape(0, 1, 1);
            checks.equal("in the next tick", x.tick(1), 999);
        });
    }

    private static void promise3() {
        checks.test("Promise 3", GATE, () -> {
            GossipGates x = Scenes.shutRiver();
            checks.range("setGauge, gate", 0, 7, gate -> x.setGauge(gate, 7));
            checks.equal("the first", x.setGauge(0, 5), 7);
            checks.equal("the last", x.setGauge(7, 5), 7);
            checks.equal("and none between", x.setGauge(3, 5), 5);
        });
        checks.test("Promise 3", "`gauge`: 1 to 50", () -> {
            GossipGates x = Scenes.shutRiver();
            x.rain(7, 1000);
            x.byHand(7, 1);
            checks.refused("setGauge", 1, 50, gauge -> x.setGauge(7, gauge));
            x.tick(1);
            checks.equal("5 as before", x.flowed(7), 5);
            x.setGauge(7, 1);
            x.tick(1);
            checks.equal("the least", x.flowed(7), 6);
            x.setGauge(7, 50);
            x.tick(1);
            checks.equal("the greatest", x.flowed(7), 56);
        });
        checks.test("Promise 3", "Returns the gauge before.", () -> {
            GossipGates x = new GossipGates();
            checks.equal("at first", x.setGauge(0, 1), 5);
            checks.equal("the least", x.setGauge(0, 50), 1);
            checks.equal("the greatest", x.setGauge(0, 50), 50);
            checks.argument("a refused one", () -> x.setGauge(0, 51));
            checks.equal("is not one before", x.setGauge(0, 1), 50);
        });
    }

    private static void promise4() {
        checks.test("Promise 4", "Sets the source, in each tick from the next one on", () -> {
            GossipGates x = Scenes.shutRiver();
            x.setSource(3);
            checks.equal("not at once", x.volume(0), 0);
            x.tick(1);
            checks.equal("in the next one", x.volume(0), 3);
            x.tick(100);
            checks.equal("in each", x.volume(0), 303);
            x.setSource(0);
            x.tick(10);
            checks.equal("none any more", x.volume(0), 303);
        });
        checks.test("Promise 4", "it is 0 at first.", () -> {
            GossipGates x = new GossipGates();
            x.tick(1);
            checks.equal("no water", x.volume(0), 0);
            checks.equal("source", x.setSource(1), 0);
        });
        checks.test("Promise 4", "`amount`: 0 to 1000", () -> {
            GossipGates x = Scenes.shutRiver();
            x.setSource(1000);
            checks.refused("setSource", 0, 1000, amount -> x.setSource(amount));
            x.tick(1);
            checks.equal("the greatest", x.volume(0), 1000);
            checks.taken("the least", () -> x.setSource(0));
            checks.equal("nothing comes", x.tick(1), 0);
        });
        checks.test("Promise 4", "Returns the source before.", () -> {
            GossipGates x = new GossipGates();
            checks.equal("at first", x.setSource(1000), 0);
            checks.argument("a refused one", () -> x.setSource(1001));
            checks.equal("the greatest", x.setSource(0), 1000);
            checks.equal("the least", x.setSource(0), 0);
        });
    }

    private static void promise5() {
        checks.test("Promise 5", REACH, () -> {
            GossipGates x = Scenes.shutRiver();
            checks.range("rain, reach", 0, 7, reach -> x.rain(reach, 2));
            x.tick(1);
            for (int reach = 0; reach < 8; reach++) {
                checks.equal("reach " + reach, x.volume(reach), reach % 7 == 0 ? 2 : 0);
            }
        });
        checks.test("Promise 5", "`amount`: 1 to 10000", () -> {
            GossipGates x = Scenes.shutRiver();
            x.shape(7, 100, 1000);
            checks.refused("rain", 1, 10000, amount -> x.rain(7, amount));
            x.tick(1);
            checks.equal("none as yet", x.volume(7), 0);
            checks.equal("the least", x.rain(7, 1), 1);
            x.tick(1);
            checks.equal("fell", x.volume(7), 1);
            checks.equal("the greatest", x.rain(7, 10000), 10000);
            x.tick(1);
            checks.equal("fell", x.volume(7), 10001);
        });
        checks.test("Promise 5", "Lets it rain into a reach, in the next tick.", () -> {
            GossipGates x = Scenes.shutRiver();
            x.rain(0, 9);
            checks.equal("not at once", x.volume(0), 0);
            checks.equal("nor by balance", x.volumeByBalance(0), 0);
            x.tick(1);
            checks.equal("in the next tick", x.volume(0), 9);
            x.tick(100);
            checks.equal("in that alone", x.volume(0), 9);
        });
        checks.test("Promise 5", "Returns how much will fall into this reach then, in all.", () -> {
            GossipGates x = Scenes.shutRiver();
            checks.equal("the first", x.rain(7, 10000), 10000);
            checks.equal("in all", x.rain(7, 10000), 20000);
            checks.equal("another reach", x.rain(6, 1), 1);
            checks.argument("a refused one", () -> x.rain(7, 10001));
            checks.equal("is not counted", x.rain(7, 1), 20001);
            x.tick(1);
            checks.equal("after the tick it begins anew", x.rain(7, 1), 1);
        });
    }

    /** A reach that is empty, one with a drop, one that is full to its depth, and one above it. */
    private static GossipGates fourVolumes(int first) {
        GossipGates x = Scenes.shutRiver();
        x.rain(first + 1, 1);
        x.rain(first + 2, 1000);
        x.rain(first + 3, 1000);
        x.tick(1);
        x.shape(first + 3, 7, 100);
        return x;
    }

    private static void promise6To8() {
        checks.test("Promise 6", REACH, () -> {
            GossipGates x = new GossipGates();
            checks.range("volume", 0, 7, reach -> x.volume(reach));
        });
        checks.test("Promise 6", "Returns the volume of a reach.", () -> {
            for (int first = 0; first <= 4; first += 4) {
                GossipGates x = fourVolumes(first);
                checks.equal("empty", x.volume(first), 0);
                checks.equal("a drop", x.volume(first + 1), 1);
                checks.equal("full", x.volume(first + 2), 1000);
                checks.equal("above its depth", x.volume(first + 3), 1000);
            }
        });
        checks.test("Promise 7", REACH, () -> {
            GossipGates x = new GossipGates();
            checks.range("volumeByBalance", 0, 7, reach -> x.volumeByBalance(reach));
        });
        checks.test("Promise 7", "all that fell and flowed into the reach, and spilled into it,"
            + " less all that flowed and spilled out of it.", RiverEdgesTest::balances);
        checks.test("Promise 8", REACH, () -> {
            GossipGates x = new GossipGates();
            checks.range("level", 0, 7, reach -> x.level(reach));
        });
        checks.test("Promise 8", "Returns the level of a reach.", () -> {
            for (int first = 0; first <= 4; first += 4) {
                GossipGates x = fourVolumes(first);
                checks.equal("empty", x.level(first), 0);
                checks.equal("a drop", x.level(first + 1), 0);
                checks.equal("full", x.level(first + 2), 100);
                checks.equal("above its depth, 1000 over 7", x.level(first + 3), 142);
            }
        });
    }

    private static void balances() {
        for (int first = 0; first <= 4; first += 4) {
            GossipGates x = fourVolumes(first);
            for (int reach = 0; reach < 8; reach++) {
                checks.equal("at rest", x.volumeByBalance(reach), x.volume(reach));
            }
        }
        GossipGates x = Scenes.shutRiver();
        x.setSource(10);
        x.byHand(0, 1);
        x.byHand(6, 1);
        x.byHand(7, 1);
        x.rain(0, 1000);
        x.rain(6, 1010);
        x.rain(7, 1010);
        x.tick(1);
        checks.equal("the source and rain, less flow and spill", x.volumeByBalance(0), 1000);
        checks.equal("flow and spill into it", x.volumeByBalance(1), 5 + 5);
        checks.equal("the reach 6", x.volumeByBalance(6), 1000);
        checks.equal("the reach 7, out of the river", x.volumeByBalance(7), 1000);
        checks.equal("which spilled what it got", x.spilled(7), 5 + 5 + 5);
        x.setSource(0);
        x.byHand(0, 10);
        x.setGauge(0, 50);
        x.tick(3);
        checks.equal("empty again", x.volumeByBalance(0), 0);
        checks.equal("and so by its volume", x.volume(0), 0);
    }

    private static void promise9And10() {
        checks.test("Promise 9", GATE, () -> {
            GossipGates x = new GossipGates();
            checks.range("flowed", 0, 7, gate -> x.flowed(gate));
        });
        checks.test("Promise 9", "Returns how much has flowed through a gate.", () -> {
            for (int gate = 0; gate < 8; gate += 7) {
                GossipGates x = Scenes.shutRiver();
                checks.equal("none at first", x.flowed(gate), 0);
                x.rain(gate, 1001);
                x.tick(1);
                checks.equal("a shut gate, and spilling is no flowing", x.flowed(gate), 0);
                x.byHand(gate, 10);
                x.tick(1);
                checks.equal("10 * 5", x.flowed(gate), 50);
                x.tick(99);
                checks.equal("all that there was, till it is empty", x.flowed(gate), 1000);
                x.tick(1);
                checks.equal("an empty reach", x.flowed(gate), 1000);
            }
        });
        checks.test("Promise 10", REACH, () -> {
            GossipGates x = new GossipGates();
            checks.range("spilled", 0, 7, reach -> x.spilled(reach));
        });
        checks.test("Promise 10", "Returns how much has spilled from a reach.", () -> {
            for (int reach = 0; reach < 8; reach += 7) {
                GossipGates x = Scenes.shutRiver();
                checks.equal("none at first", x.spilled(reach), 0);
                x.rain(reach, 1000);
                x.tick(1);
                checks.equal("full", x.spilled(reach), 0);
                x.rain(reach, 1);
                x.tick(1);
                checks.equal("one above", x.spilled(reach), 1);
                x.rain(reach, 10000);
                x.tick(2);
                checks.equal("in all", x.spilled(reach), 10001);
                x.byHand(reach, 10);
                x.tick(5);
                checks.equal("flowing is no spilling", x.spilled(reach), 10001);
            }
        });
    }
}
