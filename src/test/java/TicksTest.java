/** Promises 31 and 32: ticks and the time. */
public final class TicksTest {
    private static final Checks checks = new Checks();

    public static void main(String[] args) {
        promise31Tick();
        promise31Wrong();
        promise31End();
        promise32Time();
        checks.end();
    }

    private static void promise31Tick() {
        GossipGates x = Scenes.shutRiver();
        x.setSource(1000);
        checks.equal("the first fills it", x.tick(1), 0);
        checks.equal("from all reaches, in all ticks", x.tick(3), 1000 + 2000 + 3000);
        checks.equal("in these ticks alone", x.tick(1), 4000);
        GossipGates one = new GossipGates();
        GossipGates many = new GossipGates();
        one.setSource(731);
        many.setSource(731);
        int sum = 0;
        for (int i = 0; i < 100; i++) {
            sum += one.tick(1);
        }
        checks.equal("100 at once are as 100 times 1", many.tick(100), sum);
        for (int i = 0; i < 8; i++) {
            checks.equal("volume " + i, many.volume(i), one.volume(i));
            checks.equal("opening " + i, many.opening(i), one.opening(i));
        }
    }

    private static void promise31Wrong() {
        GossipGates x = Scenes.shutRiver();
        x.rain(0, 7);
        for (int wrong : new int[] {0, -1, 101, 5001, Integer.MIN_VALUE, Integer.MAX_VALUE}) {
            checks.argument("tick " + wrong, () -> x.tick(wrong));
        }
        checks.equal("no time passed", x.time(), 0);
        checks.equal("nothing fell", x.volume(0), 0);
    }

    private static void promise31End() {
        GossipGates x = Scenes.shutRiver();
        x.setSource(1000);
        for (int i = 0; i < 49; i++) {
            x.tick(100);
        }
        x.tick(50);
        checks.equal("time 4950", x.time(), 4950);
        int volume = x.volume(0);
        int version = x.version(0, 0);
        checks.state("above 5000", () -> x.tick(51));
        checks.state("far above 5000", () -> x.tick(100));
        checks.argument("ahead of the state", () -> x.tick(101));
        checks.equal("no time passed", x.time(), 4950);
        checks.equal("nothing flowed", x.volume(0), volume);
        checks.equal("nothing was measured", x.version(0, 0), version);
        x.tick(50);
        checks.equal("5000 is not above", x.time(), 5000);
        checks.state("above 5000 by 1", () -> x.tick(1));
        checks.argument("0 at the end", () -> x.tick(0));
        checks.argument("101 at the end", () -> x.tick(101));
        checks.equal("all is reckoned", x.volumeByBalance(7), x.volume(7));
        checks.equal("versions", x.version(0, 0), 5000);
        checks.equal("partner for a tick that never is, (25005 + 0) mod 7", x.partner(0), 2);
    }

    private static void promise32Time() {
        GossipGates x = new GossipGates();
        checks.equal("0 at first", x.time(), 0);
        x.tick(1);
        checks.equal("1", x.time(), 1);
        x.tick(100);
        checks.equal("101", x.time(), 101);
        x.rain(0, 1);
        checks.equal("ticks alone let time pass", x.time(), 101);
    }
}
