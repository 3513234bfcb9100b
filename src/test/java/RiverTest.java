/** Promises 1 to 10: a new object, and the river. */
public final class RiverTest {
    private static final Checks checks = new Checks();

    public static void main(String[] args) {
        promise1NewObject();
        promise2Shape();
        promise2ShapeWrong();
        promise3SetGauge();
        promise4SetSource();
        promise5Rain();
        promise6Volume();
        promise7VolumeByBalance();
        promise8Level();
        promise9Flowed();
        promise10Spilled();
        checks.end();
    }

    private static void promise1NewObject() {
        GossipGates x = new GossipGates();
        int[] partners = {6, 2, 5, 0, 3, 7, 2, 5};
        for (int i = 0; i < 8; i++) {
            int n = i;
            checks.equal("new volume " + i, x.volume(i), 0);
            checks.equal("new balance " + i, x.volumeByBalance(i), 0);
            checks.equal("new level " + i, x.level(i), 0);
            checks.equal("new flowed " + i, x.flowed(i), 0);
            checks.equal("new spilled " + i, x.spilled(i), 0);
            checks.equal("new opening " + i, x.opening(i), 0);
            checks.equal("new safety " + i, x.safety(i), 0);
            checks.equal("new partner " + i, x.partner(i), partners[i]);
            checks.equal("new freshest " + i, x.freshest(i), -1);
            checks.equal("new agree " + i, x.agree(i), 0);
            checks.state("new comeUp " + i, () -> x.comeUp(n));
            checks.state("new byHand NONE " + i, () -> x.byHand(n, -1));
            checks.equal("new group " + i, x.setGroup(i, 0), 0);
            checks.isTrue("new sensor does not stick", !x.setStuck(i, false));
            checks.equal("new gauge " + i, x.setGauge(i, 5), 5);
            for (int j = 0; j < 8; j++) {
                checks.equal("new believed", x.believed(i, j), -1);
                checks.equal("new version", x.version(i, j), 0);
                checks.equal("new age", x.age(i, j), -1);
                checks.equal("new beat", x.beat(i, j), 0);
                checks.equal("new status", x.status(i, j), GossipGates.ALIVE);
            }
        }
        checks.equal("new unnoticed", x.unnoticed(), 0);
        checks.equal("new mistaken", x.mistaken(), 0);
        checks.equal("new vain", x.vain(), 0);
        checks.equal("new source", x.setSource(0), 0);
        checks.equal("new time", x.time(), 0);
    }

    private static void promise2Shape() {
        GossipGates x = Scenes.shutRiver();
        x.rain(3, 70);
        x.tick(1);
        checks.equal("level by the area at first", x.level(3), 7);
        x.shape(3, 7, 9);
        checks.equal("volume stays", x.volume(3), 70);
        checks.equal("level by the new area", x.level(3), 10);
        checks.equal("spills above 63", x.tick(1), 7);
        checks.equal("holds 63", x.volume(3), 63);
        checks.equal("nothing more spills", x.tick(1), 0);
        x.shape(0, 1, 1);
        x.shape(1, 100, 1000);
        x.shape(7, 1, 1000);
        x.rain(0, 2);
        x.rain(1, 10000);
        x.rain(7, 1001);
        checks.equal("smallest and deepest", x.tick(1), 2);
        checks.equal("smallest holds 1", x.volume(0), 1);
        checks.equal("greatest holds all", x.volume(1), 10001);
        checks.equal("narrow and deep", x.volume(7), 1000);
        GossipGates y = Scenes.shutRiver();
        y.rain(5, 1001);
        checks.equal("1000 fit at first", y.tick(1), 1);
    }

    private static void promise2ShapeWrong() {
        GossipGates x = Scenes.shutRiver();
        for (int wrong : Checks.NOT_A_NUMBER) {
            checks.argument("shape reach " + wrong, () -> x.shape(wrong, 1, 1));
        }
        for (int wrong : new int[] {0, -1, 101, Integer.MIN_VALUE, Integer.MAX_VALUE}) {
            checks.argument("shape area " + wrong, () -> x.shape(0, wrong, 1));
        }
        for (int wrong : new int[] {0, -1, 1001, Integer.MIN_VALUE, Integer.MAX_VALUE}) {
            checks.argument("shape depth " + wrong, () -> x.shape(0, 1, wrong));
        }
        x.rain(0, 1001);
        checks.equal("wrong shapes changed nothing", x.tick(1), 1);
        checks.equal("wrong shapes left the area", x.level(0), 100);
    }

    private static void promise3SetGauge() {
        GossipGates x = Scenes.shutRiver();
        x.rain(4, 900);
        x.byHand(4, 10);
        x.tick(1);
        checks.equal("gauge 5 at first", x.flowed(4), 50);
        checks.equal("gauge before", x.setGauge(4, 50), 5);
        x.tick(1);
        checks.equal("gauge 50", x.flowed(4), 550);
        checks.equal("gauge before", x.setGauge(4, 1), 50);
        x.tick(1);
        checks.equal("gauge 1", x.flowed(4), 560);
        for (int wrong : new int[] {0, -1, 51, Integer.MIN_VALUE, Integer.MAX_VALUE}) {
            checks.argument("setGauge " + wrong, () -> x.setGauge(4, wrong));
        }
        for (int wrong : Checks.NOT_A_NUMBER) {
            checks.argument("setGauge gate " + wrong, () -> x.setGauge(wrong, 5));
        }
        checks.equal("wrong gauges changed nothing", x.setGauge(4, 2), 1);
        checks.equal("another gate has its own", x.setGauge(3, 2), 5);
    }

    private static void promise4SetSource() {
        GossipGates x = Scenes.shutRiver();
        checks.equal("no source at first", x.setSource(100), 0);
        checks.equal("not ahead of the tick", x.volume(0), 0);
        x.tick(3);
        checks.equal("in each tick", x.volume(0), 300);
        checks.equal("source before", x.setSource(1000), 100);
        checks.equal("greatest source", x.tick(1), 300);
        checks.equal("full", x.volume(0), 1000);
        checks.argument("source -1", () -> x.setSource(-1));
        checks.argument("source 1001", () -> x.setSource(1001));
        checks.argument("source least", () -> x.setSource(Integer.MIN_VALUE));
        checks.argument("source greatest", () -> x.setSource(Integer.MAX_VALUE));
        checks.equal("wrong sources changed nothing", x.setSource(0), 1000);
        checks.equal("no source", x.tick(5), 0);
    }

    private static void promise5Rain() {
        GossipGates x = Scenes.shutRiver();
        x.shape(0, 100, 1000);
        checks.equal("rain", x.rain(0, 1), 1);
        checks.equal("in all", x.rain(0, 10000), 10001);
        checks.equal("each reach its own", x.rain(7, 3), 3);
        checks.argument("rain 0", () -> x.rain(0, 0));
        checks.argument("rain -5", () -> x.rain(0, -5));
        checks.argument("rain 10001", () -> x.rain(0, 10001));
        checks.argument("rain greatest", () -> x.rain(0, Integer.MAX_VALUE));
        for (int wrong : Checks.NOT_A_NUMBER) {
            checks.argument("rain reach " + wrong, () -> x.rain(wrong, 1));
        }
        x.setSource(10);
        checks.equal("without the source", x.rain(0, 2), 10003);
        checks.equal("not ahead of the tick", x.volume(0), 0);
        x.tick(1);
        checks.equal("fell, with the source", x.volume(0), 10013);
        checks.equal("fell there", x.volume(7), 3);
        x.setSource(0);
        x.tick(1);
        checks.equal("fell once", x.volume(0), 10013);
        checks.equal("counted anew", x.rain(0, 5), 5);
    }

    private static void promise6Volume() {
        GossipGates x = Scenes.shutRiver();
        for (int i = 0; i < 8; i++) {
            x.setGauge(i, 50);
            x.byHand(i, 10);
        }
        x.rain(0, 100);
        x.rain(1, 40);
        x.rain(7, 700);
        checks.equal("nothing spills", x.tick(1), 0);
        int[] due = {0, 100, 40, 0, 0, 0, 0, 200};
        for (int i = 0; i < 8; i++) {
            checks.equal("all at once " + i, x.volume(i), due[i]);
        }
        for (int wrong : Checks.NOT_A_NUMBER) {
            checks.argument("volume " + wrong, () -> x.volume(wrong));
        }
    }

    private static void promise7VolumeByBalance() {
        GossipGates x = new GossipGates();
        x.setSource(77);
        for (int i = 0; i < 25; i++) {
            x.rain(i % 8, 100 + 97 * i);
            x.shape((i * 3) % 8, 1 + i, 10 + i);
            x.tick(1);
            for (int reach = 0; reach < 8; reach++) {
                checks.equal("balance " + i + " " + reach,
                    x.volumeByBalance(reach), x.volume(reach));
            }
        }
        GossipGates y = Scenes.shutRiver();
        y.setSource(10);
        y.rain(0, 1000);
        y.byHand(0, 1);
        y.tick(1);
        checks.equal("rain and source, less flow and spill", y.volumeByBalance(0), 1000);
        checks.equal("flow and spill from above", y.volumeByBalance(1), 10);
        for (int wrong : Checks.NOT_A_NUMBER) {
            checks.argument("volumeByBalance " + wrong, () -> y.volumeByBalance(wrong));
        }
    }

    private static void promise8Level() {
        GossipGates x = Scenes.shutRiver();
        x.shape(2, 7, 100);
        x.rain(2, 20);
        x.tick(1);
        checks.equal("rounded down", x.level(2), 2);
        x.rain(2, 1);
        x.tick(1);
        checks.equal("whole", x.level(2), 3);
        x.shape(2, 100, 100);
        checks.equal("nearly empty", x.level(2), 0);
        x.shape(2, 1, 1);
        checks.equal("above the depth, until the tick", x.level(2), 21);
        for (int wrong : Checks.NOT_A_NUMBER) {
            checks.argument("level " + wrong, () -> x.level(wrong));
        }
    }

    private static void promise9Flowed() {
        GossipGates x = Scenes.shutRiver();
        x.rain(6, 32);
        x.byHand(6, 3);
        x.byHand(7, 2);
        x.tick(1);
        checks.equal("opening * gauge", x.flowed(6), 15);
        checks.equal("by the volumes ahead of the flow", x.flowed(7), 0);
        x.tick(1);
        checks.equal("in all", x.flowed(6), 30);
        checks.equal("out of the river", x.flowed(7), 10);
        x.tick(1);
        checks.equal("no more than the volume", x.flowed(6), 32);
        checks.equal("gate 7", x.flowed(7), 20);
        checks.equal("volume of the last", x.volume(7), 12);
        x.tick(5);
        checks.equal("all out", x.flowed(7), 32);
        checks.equal("a shut gate", x.flowed(5), 0);
        for (int wrong : Checks.NOT_A_NUMBER) {
            checks.argument("flowed " + wrong, () -> x.flowed(wrong));
        }
    }

    private static void promise10Spilled() {
        GossipGates x = Scenes.shutRiver();
        for (int i = 0; i < 8; i++) {
            x.shape(i, 1, 1);
        }
        x.rain(0, 100);
        checks.equal("by rising reaches", x.tick(1), 99 + 98 + 97 + 96 + 95 + 94 + 93 + 92);
        for (int i = 0; i < 8; i++) {
            checks.equal("spilled " + i, x.spilled(i), 99 - i);
            checks.equal("left " + i, x.volume(i), 1);
        }
        x.rain(5, 2);
        checks.equal("again", x.tick(2), 6);
        checks.equal("in all", x.spilled(5), 96);
        checks.equal("not above", x.spilled(4), 95);
        for (int wrong : Checks.NOT_A_NUMBER) {
            checks.argument("spilled " + wrong, () -> x.spilled(wrong));
        }
    }
}
