/**
 * The edges that the sections "What it is", "The public face" and "Terms" name, as far as its
 * heads "River", "News" and "Rules of gates"; a test for each sentence.
 */
public final class TermsEdgesTest {
    private static final Checks checks = new Checks();

    public static void main(String[] args) {
        whatItIs();
        constants();
        terms();
        river();
        news();
        rulesOfGates();
        checks.end();
    }

    private static void whatItIs() {
        checks.test("What it is", "An object is used for at most 512 calls after it has been made",
            TermsEdgesTest::theLastCallAndTheMostWater);
    }

    /** 460 of the greatest rains, and 4100 ticks of the greatest source: few runs have more. */
    private static void theLastCallAndTheMostWater() {
        GossipGates x = new GossipGates();
        x.setSource(1000);
        for (int i = 1; i <= 460; i++) {
            checks.equal("rain " + i, x.rain(0, 10000), 10000 * i);
        }
        for (int gate = 0; gate < 8; gate++) {
            x.byHand(gate, 0);
        }
        int spilt = 0;
        for (int i = 0; i < 41; i++) {
            spilt += x.tick(100);
        }
        checks.equal("the call 510 and those ahead", spilt, 8 * 8700000 - 36000);
        checks.equal("the call 511", x.volumeByBalance(7), 1000);
        checks.equal("the call 512", x.spilled(7), 8700000 - 8000);
    }

    private static void constants() {
        checks.test("The public face", "`NONE = -1`: There is none.",
            () -> checks.equal("NONE", GossipGates.NONE, -1));
        checks.test("The public face", "`ALIVE = 0, SUSPECTED = 1, DEAD = 2`: Statuses.", () -> {
            checks.equal("ALIVE", GossipGates.ALIVE, 0);
            checks.equal("SUSPECTED", GossipGates.SUSPECTED, 1);
            checks.equal("DEAD", GossipGates.DEAD, 2);
        });
    }

    private static void terms() {
        String reaches = "There are the reaches 0 to 7, one behind the other, each with a gate at"
            + " its end and a member, of the same number.";
        checks.test("Terms", reaches, TermsEdgesTest::oneBehindTheOther);
        checks.test("Terms", reaches, TermsEdgesTest::gateAndMemberOfTheSameNumber);
        String both = "if both apply, IllegalArgumentException is thrown.";
        checks.test("Terms", both, TermsEdgesTest::bothApplyToTick);
        checks.test("Terms", both, TermsEdgesTest::bothApplyToByHand);
        checks.test("Terms", both, TermsEdgesTest::bothApplyToFallAndComeUp);
        checks.test("Terms", "Time is counted in ticks; it is 0 at first.", () -> {
            GossipGates x = new GossipGates();
            checks.equal("at first", x.time(), 0);
            x.tick(1);
            checks.equal("after one tick", x.time(), 1);
        });
        checks.test("Terms", "Divisions are rounded down.", TermsEdgesTest::roundedDown);
    }

    private static void oneBehindTheOther() {
        for (int i = 0; i < 8; i++) {
            GossipGates x = Scenes.shutRiver();
            x.rain(i, 5);
            x.byHand(i, 1);
            x.tick(1);
            for (int reach = 0; reach < 8; reach++) {
                checks.equal("through the gate " + i + ", the reach " + reach, x.volume(reach),
                    reach == i + 1 ? 5 : 0);
            }
        }
    }

    private static void gateAndMemberOfTheSameNumber() {
        for (int i = 0; i < 8; i++) {
            GossipGates x = Scenes.onlyUp(i);
            x.rain(i, 410);
            x.tick(1);
            checks.equal("the member measures its reach", x.believed(i, i), 41);
            for (int gate = 0; gate < 8; gate++) {
                int due = gate != i ? 0 : i == 7 ? 1 : 2;
                checks.equal("the member " + i + ", the gate " + gate, x.opening(gate), due);
            }
        }
    }

    private static void bothApplyToTick() {
        GossipGates x = Scenes.shutRiver();
        for (int i = 0; i < 50; i++) {
            checks.argument("101 ticks at the time " + x.time(), () -> x.tick(101));
            x.tick(100);
        }
        checks.argument("101 ticks at the end", () -> x.tick(101));
        checks.argument("the most ticks at the end", () -> x.tick(Integer.MAX_VALUE));
    }

    private static void bothApplyToByHand() {
        GossipGates x = new GossipGates();
        checks.argument("no gate -1", () -> x.byHand(-1, GossipGates.NONE));
        checks.argument("no gate 8", () -> x.byHand(8, GossipGates.NONE));
        checks.argument("no opening -2, and no hand has it", () -> x.byHand(0, -2));
        checks.argument("no opening 11, and no hand has it", () -> x.byHand(0, 11));
    }

    private static void bothApplyToFallAndComeUp() {
        GossipGates up = new GossipGates();
        checks.argument("all are up, no member -1", () -> up.comeUp(-1));
        checks.argument("all are up, no member 8", () -> up.comeUp(8));
        GossipGates down = Scenes.onlyUp();
        checks.argument("all are down, no member -1", () -> down.fall(-1));
        checks.argument("all are down, no member 8", () -> down.fall(8));
    }

    private static int levelOf(int area, int volume) {
        GossipGates x = Scenes.shutRiver();
        x.shape(0, area, 1000);
        Scenes.pour(x, 0, volume);
        x.tick(1);
        checks.equal("what is measured, " + volume + " over " + area, x.believed(0, 0), x.level(0));
        return x.level(0);
    }

    private static void roundedDown() {
        checks.equal("99 over 100", levelOf(100, 99), 0);
        checks.equal("100 over 100", levelOf(100, 100), 1);
        checks.equal("199 over 100", levelOf(100, 199), 1);
        checks.equal("200 over 100", levelOf(100, 200), 2);
        checks.equal("6 over 7", levelOf(7, 6), 0);
        checks.equal("13 over 7", levelOf(7, 13), 1);
        checks.equal("99999 over 100", levelOf(100, 99999), 999);
        checks.equal("1000 over 1", levelOf(1, 1000), 1000);
    }

    private static void river() {
        checks.test("River", "A reach has an area, 1 to 100, 10 at first", () -> {
            for (int reach = 0; reach < 8; reach++) {
                GossipGates x = Scenes.shutRiver();
                x.rain(reach, 100);
                x.tick(1);
                checks.equal("100 over the area, reach " + reach, x.level(reach), 10);
            }
        });
        checks.test("River", "a depth, 1 to 1000, 100 at first", () -> {
            for (int reach = 0; reach < 8; reach++) {
                GossipGates x = Scenes.shutRiver();
                x.rain(reach, 1000);
                checks.equal("1000 fit into the reach " + reach, x.tick(1), 0);
                x.rain(reach, 1);
                checks.equal("1001 do not", x.tick(1), 1);
            }
        });
        checks.test("River", "a volume of water, 0 at first", () -> {
            GossipGates x = new GossipGates();
            for (int reach = 0; reach < 8; reach++) {
                checks.equal("volume " + reach, x.volume(reach), 0);
            }
        });
        checks.test("River", "Its level is volume / area.", TermsEdgesTest::levels);
        checks.test("River", "Its gate has an opening, 0 to 10, 0 at first", () -> {
            GossipGates x = new GossipGates();
            for (int gate = 0; gate < 8; gate++) {
                checks.equal("opening " + gate, x.opening(gate), 0);
            }
        });
        checks.test("River", "a gauge, 1 to 50, 5 at first", () -> {
            GossipGates x = new GossipGates();
            for (int gate = 0; gate < 8; gate++) {
                checks.equal("gauge " + gate, x.setGauge(gate, 50), 5);
            }
        });
    }

    private static void levels() {
        checks.equal("an empty reach", levelOf(100, 0), 0);
        checks.equal("a reach full to its depth", levelOf(100, 100000), 1000);
        checks.equal("all above has spilled", levelOf(100, 100001), 1000);
        GossipGates x = Scenes.shutRiver();
        Scenes.pour(x, 0, 1000);
        x.tick(1);
        x.shape(0, 1, 1);
        checks.equal("above the depth, until the next tick", x.level(0), 1000);
    }

    private static void news() {
        checks.test("News", "a version, 0 at first, that is, no news", () -> {
            GossipGates x = new GossipGates();
            for (int member = 0; member < 8; member++) {
                for (int reach = 0; reach < 8; reach++) {
                    checks.equal("version", x.version(member, reach), 0);
                    checks.equal("believed", x.believed(member, reach), GossipGates.NONE);
                    checks.equal("age", x.age(member, reach), GossipGates.NONE);
                }
            }
        });
        checks.test("News", "It keeps a beat of each member, 0 at first", () -> {
            GossipGates x = new GossipGates();
            for (int member = 0; member < 8; member++) {
                for (int other = 0; other < 8; other++) {
                    checks.equal("beat", x.beat(member, other), 0);
                }
            }
        });
        checks.test("News", "the tick in which that grew last with it, 0 at first",
            TermsEdgesTest::grewLastInTheTick0);
        checks.test("News", "a status: ALIVE, as at first, SUSPECTED or DEAD", () -> {
            GossipGates x = new GossipGates();
            for (int member = 0; member < 8; member++) {
                for (int other = 0; other < 8; other++) {
                    checks.equal("status", x.status(member, other), GossipGates.ALIVE);
                }
            }
        });
        checks.test("News", "it holds itself ALIVE always.", TermsEdgesTest::itselfAliveAlways);
        checks.test("News", "A member is up, as at first, or down", () -> {
            GossipGates x = new GossipGates();
            for (int member = 0; member < 8; member++) {
                int one = member;
                checks.state("it is up", () -> x.comeUp(one));
                x.fall(member);
                checks.state("it is down", () -> x.fall(one));
            }
        });
        checks.test("News", "it is in a group, 0 at first.", () -> {
            GossipGates x = new GossipGates();
            for (int member = 0; member < 8; member++) {
                checks.equal("group", x.setGroup(member, 3), 0);
            }
        });
        checks.test("News", "then it measures what it measured last, 0 if it never measured.",
            TermsEdgesTest::stuckSensors);
        telling();
    }

    private static void grewLastInTheTick0() {
        for (int member = 0; member < 8; member += 7) {
            GossipGates x = Scenes.onlyUp(member);
            int other = 7 - member;
            x.tick(3);
            checks.equal("3 ticks ago", x.status(member, other), GossipGates.ALIVE);
            x.tick(1);
            checks.equal("4 ticks ago", x.status(member, other), GossipGates.SUSPECTED);
            x.tick(2);
            checks.equal("6 ticks ago", x.status(member, other), GossipGates.SUSPECTED);
            x.tick(1);
            checks.equal("7 ticks ago", x.status(member, other), GossipGates.DEAD);
        }
    }

    /** The beat of one that is down does not grow with itself either. */
    private static void itselfAliveAlways() {
        GossipGates x = new GossipGates();
        x.setTimes(1, 1);
        x.setGroup(0, 1);
        x.setStuck(0, true);
        x.tick(100);
        checks.equal("alone in its group", x.status(0, 0), GossipGates.ALIVE);
        for (int member = 0; member < 8; member++) {
            x.fall(member);
        }
        x.tick(100);
        for (int member = 0; member < 8; member++) {
            checks.equal("down", x.status(member, member), GossipGates.ALIVE);
            x.comeUp(member);
            checks.equal("come up", x.status(member, member), GossipGates.ALIVE);
        }
        x.tick(1);
        for (int member = 0; member < 8; member++) {
            checks.equal("up again", x.status(member, member), GossipGates.ALIVE);
        }
    }

    private static void stuckSensors() {
        for (int member = 0; member < 8; member += 7) {
            GossipGates x = Scenes.shutRiver();
            x.setStuck(member, true);
            x.rain(member, 300);
            x.tick(2);
            checks.equal("it never measured", x.believed(member, member), 0);
            x.setStuck(member, false);
            x.tick(1);
            checks.equal("not stuck", x.believed(member, member), 30);
            x.setStuck(member, true);
            x.rain(member, 300);
            x.tick(2);
            checks.equal("what it measured last", x.believed(member, member), 30);
            x.tick(10);
            checks.equal("told to others too", x.believed(7 - member, member), 30);
        }
    }

    /** In the tick 1, 0 calls 6 ahead of all: (5 + 0) mod 7 is 5, the place of 6 without 0. */
    private static void telling() {
        checks.test("News", "then of each reach the one with the lesser version takes the news of"
            + " the other one", TermsEdgesTest::theLesserVersionTakes);
        checks.test("News", "of each member the one with the lesser beat takes the beat of the"
            + " other one", TermsEdgesTest::theLesserBeatTakes);
        checks.test("News", "which grows with it by that", TermsEdgesTest::equalBeatsDoNotGrow);
        checks.test("News", "and it holds that member ALIVE.", TermsEdgesTest::heldAliveAtOnce);
    }

    private static void theLesserVersionTakes() {
        GossipGates x = Scenes.shutRiver();
        x.rain(0, 10);
        x.rain(6, 70);
        x.tick(1);
        checks.equal("the one that calls takes", x.version(0, 6), 1);
        checks.equal("with the level", x.believed(0, 6), 7);
        checks.equal("and the tick", x.age(0, 6), 0);
        checks.equal("the one called takes", x.version(6, 0), 1);
        checks.equal("with the level", x.believed(6, 0), 1);
        checks.equal("and the tick", x.age(6, 0), 0);
        checks.equal("version 0 of both: none has news", x.version(0, 7) + x.version(6, 7), 0);
        for (int time = 2; time <= 20; time++) {
            x.rain(0, 10);
            x.tick(1);
            checks.equal("the greater one stays, its version", x.version(0, 0), time);
            checks.equal("its level", x.believed(0, 0), time);
            checks.equal("its tick", x.age(0, 0), 0);
            checks.equal("the lesser one of its time", x.believed(6, 0), x.version(6, 0));
            checks.equal("and as old", x.age(6, 0), time - x.version(6, 0));
        }
    }

    private static void theLesserBeatTakes() {
        GossipGates x = new GossipGates();
        x.tick(1);
        checks.equal("the one that calls takes", x.beat(0, 6), 1);
        checks.equal("the one called takes", x.beat(6, 0), 1);
        checks.equal("its own beat stays", x.beat(0, 0), 1);
        checks.equal("a beat of 0 with both", x.beat(0, 7) + x.beat(6, 7), 0);
        x.fall(0);
        for (int time = 2; time <= 20; time++) {
            x.tick(1);
            checks.equal("its own beat stays, when down", x.beat(0, 0), 1);
            checks.isTrue("no lesser beat is taken", x.beat(6, 0) == 1);
        }
    }

    /** All that keep the last beat of the member 7 tell one another in each tick. */
    private static void equalBeatsDoNotGrow() {
        GossipGates x = new GossipGates();
        x.tick(20);
        x.fall(7);
        x.tick(6);
        for (int member = 0; member < 7; member++) {
            checks.equal("all have heard of the last beat", x.beat(member, 7), 20);
        }
        x.tick(7);
        for (int member = 0; member < 7; member++) {
            checks.equal("and hear of no other one", x.status(member, 7), GossipGates.DEAD);
        }
    }

    /**
     * In the tick 7, no multiple of 4, 1 calls 4, that holds 5 DEAD, and brings it a greater beat
     * of 5; so 4 then has all others to call: (35 + 12) mod 7 is 5, the place of 6; ahead of that,
     * and without 5, it would be 47 mod 6, the place of 7, and 4 and 7 would tell one another.
     */
    private static void heldAliveAtOnce() {
        GossipGates x = new GossipGates();
        x.setTimes(1, 1);
        x.tick(6);
        checks.equal("4 holds 5 DEAD", x.status(4, 5), GossipGates.DEAD);
        checks.equal("1 would call 4", x.partner(1), 4);
        checks.isTrue("and has news of 5", x.beat(1, 5) > x.beat(4, 5));
        checks.equal("4 would call 7", x.partner(4), 7);
        x.tick(1);
        checks.equal("4 was called", x.version(4, 1), 7);
        checks.equal("and called 6", x.version(4, 6), 7);
        checks.equal("and not 7", x.version(4, 7), 6);
        checks.equal("nor did 7 hear of it", x.version(7, 4), 6);
    }

    private static void rulesOfGates() {
        String place = "Rules of gates";
        checks.test(place, "The rule of a gate has a low level, 20 at first", () -> {
            for (int gate = 0; gate < 8; gate++) {
                checks.equal("19", Scenes.ruledOnce(Scenes.calm(Scenes.all(19)), gate, 5), 4);
                checks.equal("20", Scenes.ruledOnce(Scenes.calm(Scenes.all(20)), gate, 5), 5);
            }
        });
        checks.test(place, "a high level, 40 at first", () -> {
            for (int gate = 0; gate < 8; gate++) {
                checks.equal("40", Scenes.ruledOnce(Scenes.calm(Scenes.all(40)), gate, 5), 5);
                checks.equal("41", Scenes.ruledOnce(Scenes.calm(Scenes.all(41)), gate, 5), 6);
            }
        });
        checks.test(place, "a bound for the next reach, 80 at first", () -> {
            for (int gate = 0; gate < 7; gate++) {
                int[] below = Scenes.allBut(50, gate + 1, 79);
                int[] at = Scenes.allBut(50, gate + 1, 80);
                checks.equal("79", Scenes.ruledOnce(Scenes.calm(below), gate, 5), 6);
                checks.equal("80", Scenes.ruledOnce(Scenes.calm(at), gate, 5), 5);
            }
        });
        checks.test(place, "and an age, 5 at first.", () -> {
            for (int gate = 0; gate < 7; gate++) {
                GossipGates five = Scenes.aged(gate, 5, Scenes.all(30));
                checks.equal("5 ticks", Scenes.ruledOnce(five, gate, 5), 5);
                GossipGates six = Scenes.aged(gate, 6, Scenes.all(30));
                checks.equal("6 ticks", Scenes.ruledOnce(six, gate, 5), 7);
            }
        });
        checks.test(place, "A gate can be in a hand; then its member does not rule it.", () -> {
            GossipGates x = new GossipGates();
            x.byHand(0, 0);
            x.byHand(7, 10);
            x.tick(50);
            checks.equal("the gate 0", x.opening(0), 0);
            checks.equal("the gate 7", x.opening(7), 10);
            checks.equal("not for safety either", x.safety(0), 0);
        });
    }
}
