/** The edges that the promises 31 and 32 name: ticks and the time; a test for each sentence. */
public final class TimeEdgesTest {
    private static final Checks checks = new Checks();

    public static void main(String[] args) {
        promise31();
        promise32();
        checks.end();
    }

    private static GossipGates at(int time) {
        GossipGates x = Scenes.shutRiver();
        for (int left = time; left > 0; left -= 100) {
            x.tick(Math.min(left, 100));
        }
        return x;
    }

    private static void promise31() {
        String place = "Promise 31";
        checks.test(place, "`ticks`: 1 to 100", () -> {
            GossipGates x = new GossipGates();
            checks.refused("tick", 1, 100, ticks -> x.tick(ticks));
            checks.argument("tick 0", () -> x.tick(0));
            checks.equal("none passed", x.time(), 0);
            x.tick(1);
            checks.equal("the least", x.time(), 1);
            x.tick(100);
            checks.equal("the greatest", x.time(), 101);
            checks.equal("each one was passed", x.version(7, 7), 101);
        });
        checks.test(place, "Returns how much spills in them, from all reaches.",
            TimeEdgesTest::whatSpills);
        checks.test(place, "Returns how much spills in them, from all reaches.", () -> {
            GossipGates x = Scenes.shutRiver();
            checks.equal("an empty river", x.tick(100), 0);
            x.setSource(1000);
            checks.equal("the reach 0 is full", x.tick(1), 0);
            checks.equal("in 100 ticks", x.tick(100), spiltOfThousands(2, 101));
            checks.equal("in the next one alone", x.tick(1), spiltOfThousands(102, 102));
        });
        checks.test(place, "Throws `IllegalStateException` if the time would be above 5000",
            TimeEdgesTest::above5000);
        checks.test(place, "Throws `IllegalStateException` if the time would be above 5000", () -> {
            for (int ticks = 1; ticks <= 100; ticks += 33) {
                int most = ticks;
                GossipGates x = at(5000 - ticks);
                for (int more = ticks + 1; more <= 100; more += 11) {
                    int wrong = more;
                    checks.state("above, " + more + " ticks at " + x.time(), () -> x.tick(wrong));
                }
                checks.taken("just 5000, " + ticks + " ticks", () -> x.tick(most));
                checks.equal("the end", x.time(), 5000);
            }
        });
        checks.test(place, "Throws `IllegalArgumentException` if ticks is out of range", () -> {
            GossipGates x = at(5000);
            checks.refused("tick at the end", 1, 100, ticks -> x.tick(ticks));
        });
    }

    /** The source fills a reach in each tick; each full one ahead of it spills 1000. */
    private static int spiltOfThousands(int first, int last) {
        int spilt = 0;
        for (int tick = first; tick <= last; tick++) {
            spilt += 1000 * Math.min(tick - 1, 8);
        }
        return spilt;
    }

    private static void whatSpills() {
        for (int reach = 0; reach < 8; reach++) {
            GossipGates x = Scenes.shutRiver();
            x.rain(reach, 1000);
            checks.equal("full", x.tick(1), 0);
            x.rain(reach, 1);
            checks.equal("one above, into an empty one or out", x.tick(2), 1);
            checks.equal("no more", x.tick(100), 0);
        }
    }

    private static void above5000() {
        GossipGates x = at(4999);
        x.setSource(1);
        checks.state("2 ticks", () -> x.tick(2));
        checks.state("100 ticks", () -> x.tick(100));
        checks.equal("none passed, not the one that there is", x.time(), 4999);
        checks.equal("nothing flowed", x.volume(0), 0);
        checks.taken("the last one", () -> x.tick(1));
        checks.equal("it passed", x.volume(0), 1);
        checks.equal("and was measured", x.version(0, 0), 5000);
        checks.state("none is left", () -> x.tick(1));
        checks.equal("the end", x.time(), 5000);
        checks.equal("nothing flowed", x.volume(0), 1);
        checks.equal("other calls go on", x.rain(0, 1), 1);
    }

    private static void promise32() {
        checks.test("Promise 32", "Returns the time.", () -> {
            GossipGates x = at(0);
            checks.equal("at first", x.time(), 0);
            x.tick(1);
            checks.equal("the first tick", x.time(), 1);
            checks.equal("the last but one", at(4999).time(), 4999);
            checks.equal("the last", at(5000).time(), 5000);
        });
        checks.test("Promise 32", "Returns the time.", () -> {
            GossipGates x = Scenes.onlyUp();
            x.tick(7);
            checks.equal("with all members down", x.time(), 7);
        });
    }
}
