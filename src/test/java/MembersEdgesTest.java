/** The edges that the promises 15 to 30 name: members; a test for each sentence. */
public final class MembersEdgesTest {
    private static final String MEMBER = "`member`: 0 to 7";
    private static final String REACH = "`reach`: 0 to 7";
    private static final String OTHER = "`other`: 0 to 7";
    private static final int NONE = GossipGates.NONE;
    private static final int ALIVE = GossipGates.ALIVE;
    private static final int SUSPECTED = GossipGates.SUSPECTED;
    private static final int DEAD = GossipGates.DEAD;
    private static final Checks checks = new Checks();

    private interface OfTwo {
        int ask(GossipGates x, int one, int other);
    }

    public static void main(String[] args) {
        promise15();
        promise16();
        promise17();
        promise18();
        promise19();
        promise20();
        promise21();
        promise22();
        promise23();
        promise24();
        promise25();
        promise26();
        promise27();
        promise28();
        promise29();
        promise30();
        checks.end();
    }

    private static void promise15() {
        String place = "Promise 15";
        checks.test(place, MEMBER, () -> {
            GossipGates x = new GossipGates();
            checks.range("fall", 0, 7, member -> x.fall(member));
            x.tick(1);
            for (int member = 0; member < 8; member++) {
                int due = member % 7 == 0 ? 0 : 1;
                checks.equal("down are 0 and 7", x.version(member, member), due);
            }
        });
        checks.test(place, "what it keeps stays", MembersEdgesTest::whatItKeepsStays);
        checks.test(place, "its gate stays as it is.", () -> {
            for (int member = 0; member < 8; member += 7) {
                int one = member;
                GossipGates x = new GossipGates();
                x.rain(member, 1000);
                x.byHand(member, 3);
                x.byHand(member, NONE);
                x.fall(member);
                checks.equal("at once", x.opening(member), 3);
                x.tick(10);
                checks.equal("later", x.opening(member), 3);
                checks.equal("water flows through it", x.flowed(member), 150);
                checks.equal("never for safety", x.safety(member), 0);
                x.byHand(member, 2);
                x.comeUp(member);
                x.fall(member);
                checks.taken("a hand that has it keeps it", () -> x.byHand(one, NONE));
            }
        });
        checks.test(place, "Throws `IllegalStateException` if it is down", () -> {
            GossipGates x = new GossipGates();
            for (int member = 0; member < 8; member++) {
                int one = member;
                checks.taken("up, as at first", () -> x.fall(one));
                checks.state("down", () -> x.fall(one));
            }
            x.comeUp(0);
            checks.taken("come up", () -> x.fall(0));
            checks.state("down again", () -> x.fall(0));
        });
        checks.test(place, "Throws `IllegalArgumentException` if member is out of range", () -> {
            GossipGates x = Scenes.onlyUp();
            checks.refused("all are down", 0, 7, member -> x.fall(member));
        });
    }

    private static void whatItKeepsStays() {
        GossipGates x = new GossipGates();
        x.setGroup(0, 2);
        x.tick(9);
        x.setGroup(0, 0);
        x.setStuck(0, true);
        x.fall(0);
        int[] versions = new int[8];
        int[] beats = new int[8];
        for (int other = 0; other < 8; other++) {
            versions[other] = x.version(0, other);
            beats[other] = x.beat(0, other);
        }
        x.tick(50);
        for (int other = 0; other < 8; other++) {
            checks.equal("version " + other, x.version(0, other), versions[other]);
            checks.equal("beat " + other, x.beat(0, other), beats[other]);
            checks.equal("status " + other, x.status(0, other), other == 0 ? ALIVE : DEAD);
        }
        checks.equal("news of its own reach grow old", x.age(0, 0), 50);
        checks.isTrue("its sensor sticks", x.setStuck(0, true));
        checks.equal("its group", x.setGroup(0, 0), 0);
    }

    private static void promise16() {
        String place = "Promise 16";
        checks.test(place, MEMBER, () -> {
            GossipGates x = Scenes.onlyUp();
            checks.range("comeUp", 0, 7, member -> x.comeUp(member));
            x.tick(1);
            for (int member = 0; member < 8; member++) {
                int due = member % 7 == 0 ? 1 : 0;
                checks.equal("up are 0 and 7", x.version(member, member), due);
            }
        });
        checks.test(place, "it takes all beats as having grown now.", () -> {
            checkComeUp(0, 0);
            checkComeUp(7, 0);
            checkComeUp(0, 20);
            checkComeUp(7, 93);
        });
        checks.test(place, "it takes all beats as having grown now.", () -> {
            GossipGates x = new GossipGates();
            x.tick(5);
            x.fall(0);
            x.tick(5);
            int beat = x.beat(0, 1);
            x.comeUp(0);
            checks.equal("the beat itself stays", x.beat(0, 1), beat);
            checks.equal("its own too", x.beat(0, 0), 5);
            checks.equal("no news come by that", x.age(0, 0), 5);
        });
        checks.test(place, "it takes all beats as having grown now.", () -> {
            GossipGates x = new GossipGates();
            x.setGroup(0, 1);
            x.tick(7);
            x.fall(0);
            x.comeUp(0);
            x.tick(1);
            for (int other = 1; other < 8; other++) {
                checks.equal("the others do not", x.status(other, 0), DEAD);
            }
        });
        checks.test(place, "Lets a member come up", MembersEdgesTest::comeUpKeepsAllElse);
        checks.test(place, "Throws `IllegalStateException` if it is up", () -> {
            GossipGates x = new GossipGates();
            for (int member = 0; member < 8; member++) {
                int one = member;
                checks.state("up, as at first", () -> x.comeUp(one));
                x.fall(member);
                checks.taken("down", () -> x.comeUp(one));
                checks.state("come up", () -> x.comeUp(one));
            }
        });
        checks.test(place, "Throws `IllegalArgumentException` if member is out of range", () -> {
            GossipGates x = new GossipGates();
            checks.refused("all are up", 0, 7, member -> x.comeUp(member));
        });
    }

    private static void comeUpKeepsAllElse() {
        for (int member = 0; member < 8; member += 7) {
            int one = member;
            GossipGates x = new GossipGates();
            x.tick(9);
            x.byHand(member, 9);
            x.setGroup(member, 3);
            x.setStuck(member, true);
            x.fall(member);
            x.tick(1);
            x.comeUp(member);
            checks.equal("its gate", x.opening(member), 9);
            checks.taken("the hand that has it", () -> x.byHand(one, NONE));
            checks.isTrue("its sensor", x.setStuck(member, true));
            checks.equal("its group", x.setGroup(member, 0), 3);
            checks.equal("its news", x.version(member, member), 9);
        }
    }

    /** One that comes up at a time, and hears of none since, as the others stay down. */
    private static void checkComeUp(int member, int time) {
        GossipGates x = Scenes.onlyUp(member);
        int ahead = time / 2;
        if (ahead > 0) {
            x.tick(ahead);
            x.fall(member);
            x.tick(time - ahead);
        } else {
            x.fall(member);
        }
        x.comeUp(member);
        for (int silence = 1; silence <= 9; silence++) {
            x.tick(1);
            int due = silence > 6 ? DEAD : silence > 3 ? SUSPECTED : ALIVE;
            for (int other = 0; other < 8; other++) {
                checks.equal(silence + " ticks after it came up at " + time,
                    x.status(member, other), other == member ? ALIVE : due);
            }
        }
    }

    private static void promise17() {
        String place = "Promise 17";
        checks.test(place, MEMBER, () -> {
            GossipGates x = new GossipGates();
            checks.range("setGroup, member", 0, 7, member -> x.setGroup(member, 1));
            for (int member = 0; member < 8; member++) {
                checks.equal("in the group 1 are 0 and 7", x.setGroup(member, 2),
                    member % 7 == 0 ? 1 : 0);
            }
        });
        checks.test(place, "`group`: 0 to 3", () -> {
            for (int group = 0; group <= 3; group++) {
                for (int other = 0; other <= 3; other++) {
                    GossipGates x = Scenes.onlyUp(0, 6);
                    x.setGroup(0, group);
                    x.setGroup(6, other);
                    checks.refused("setGroup", 0, 3, wrong -> x.setGroup(6, wrong));
                    x.tick(1);
                    checks.equal("0 calls 6, groups " + group + " and " + other, x.version(6, 0),
                        group == other ? 1 : 0);
                }
            }
        });
        checks.test(place, "Returns the group before.", () -> {
            GossipGates x = Scenes.onlyUp(0);
            for (int member = 0; member < 8; member++) {
                checks.equal("at first, up or down", x.setGroup(member, 3), 0);
                checks.equal("the last", x.setGroup(member, 3), 3);
                checks.equal("the same again", x.setGroup(member, 0), 3);
                checks.equal("the first", x.setGroup(member, 1), 0);
            }
        });
    }

    private static void promise18() {
        String place = "Promise 18";
        checks.test(place, MEMBER, () -> {
            GossipGates x = new GossipGates();
            checks.range("setStuck true", 0, 7, member -> x.setStuck(member, true));
            checks.refused("setStuck false", 0, 7, member -> x.setStuck(member, false));
            for (int member = 0; member < 8; member++) {
                checks.isTrue("stuck are 0 and 7", x.setStuck(member, true) == (member % 7 == 0));
            }
        });
        checks.test(place, "Lets the sensor of a member stick, or not any more.", () -> {
            for (int member = 0; member < 8; member += 7) {
                GossipGates x = Scenes.shutRiver();
                x.rain(member, 500);
                x.tick(1);
                x.setStuck(member, true);
                x.rain(member, 500);
                x.tick(1);
                checks.equal("stuck", x.believed(member, member), 50);
                checks.equal("it measures nevertheless", x.version(member, member), 2);
                checks.equal("in this tick", x.age(member, member), 0);
                x.setStuck(member, false);
                checks.equal("not ahead of the next tick", x.believed(member, member), 50);
                x.tick(1);
                checks.equal("not any more", x.believed(member, member), 100);
            }
        });
        checks.test(place, "Returns whether it stuck.", () -> {
            GossipGates x = Scenes.onlyUp(0);
            for (int member = 0; member < 8; member++) {
                checks.isTrue("not at first, up or down", !x.setStuck(member, false));
                checks.isTrue("nor now", !x.setStuck(member, true));
                checks.isTrue("stuck", x.setStuck(member, true));
                checks.isTrue("stuck still", x.setStuck(member, false));
                checks.isTrue("not any more", !x.setStuck(member, false));
            }
        });
    }

    private static void promise19() {
        String place = "Promise 19";
        checks.test(place, "`suspicion`: 1 to 50", () -> {
            GossipGates x = new GossipGates();
            checks.range("setTimes, suspicion", 1, 50, suspicion -> x.setTimes(suspicion, 100));
            for (int wrong : Checks.outside(1, 50)) {
                checks.argument("both " + wrong, () -> x.setTimes(wrong, wrong));
            }
            checkTimes(1, 100);
            checkTimes(50, 100);
        });
        checks.test(place, "`death`: suspicion to 100", () -> {
            GossipGates x = new GossipGates();
            for (int suspicion : new int[] {1, 20, 50}) {
                checks.range("setTimes, death, suspicion " + suspicion, suspicion, 100,
                    death -> x.setTimes(suspicion, death));
            }
            checkTimes(1, 1);
            checkTimes(50, 50);
            checkTimes(7, 100);
        });
        checks.test(place, "Sets the times for suspicion and death.", () -> {
            GossipGates x = Scenes.onlyUp(0);
            x.tick(50);
            x.setTimes(50, 100);
            checks.equal("not ahead of the next look", x.status(0, 7), DEAD);
            x.tick(1);
            checks.equal("51 ticks", x.status(0, 7), SUSPECTED);
            x.setTimes(1, 1);
            x.setTimes(50, 51);
            x.tick(1);
            checks.equal("52 ticks", x.status(0, 7), DEAD);
        });
    }

    /** The member 0 alone is up, and never hears of the others. */
    private static void checkTimes(int suspicion, int death) {
        GossipGates x = Scenes.onlyUp(0);
        x.setTimes(suspicion, death);
        if (suspicion > 1) {
            x.tick(suspicion - 1);
        }
        x.tick(1);
        checks.equal("as long ago as the time for suspicion", x.status(0, 1), ALIVE);
        x.tick(1);
        boolean isSame = suspicion == death;
        checks.equal("one tick longer", x.status(0, 1), isSame ? DEAD : SUSPECTED);
        if (!isSame) {
            x.tick(death - suspicion - 1);
            checks.equal("as long ago as the time for death", x.status(0, 7), SUSPECTED);
            x.tick(1);
            checks.equal("one tick longer", x.status(0, 7), DEAD);
        }
    }

    private static void checkRanges(String place, String second, OfTwo question) {
        checks.test(place, MEMBER, () -> {
            GossipGates x = new GossipGates();
            x.tick(2);
            checks.range("member", 0, 7, member -> question.ask(x, member, 0));
        });
        checks.test(place, second, () -> {
            GossipGates x = new GossipGates();
            x.tick(2);
            checks.range("the second one", 0, 7, other -> question.ask(x, 7, other));
        });
    }

    private static void promise20() {
        checkRanges("Promise 20", REACH, (x, member, reach) -> x.believed(member, reach));
        checks.test("Promise 20", "NONE if it has none.", () -> {
            GossipGates x = Scenes.onlyUp(0);
            checks.equal("at first, its own", x.believed(0, 0), NONE);
            x.tick(1);
            checks.equal("the level 0 is news", x.believed(0, 0), 0);
            checks.equal("none of the last", x.believed(0, 7), NONE);
            checks.equal("the last one has none of its own", x.believed(7, 7), NONE);
        });
        checks.test("Promise 20", "Returns the level of a reach by the news of a member", () -> {
            GossipGates x = Scenes.calm(Scenes.allBut(0, 7, 1000));
            for (int member = 0; member < 8; member++) {
                checks.equal("the least", x.believed(member, 0), 0);
                checks.equal("the greatest", x.believed(member, 7), 1000);
            }
            x.shape(7, 1, 1);
            checks.equal("not by the level that there is", x.believed(7, 7), 1000);
        });
    }

    private static void promise21() {
        checkRanges("Promise 21", REACH, (x, member, reach) -> x.version(member, reach));
        checks.test("Promise 21", "Returns the version of the news of a member of a reach.", () -> {
            GossipGates x = Scenes.onlyUp(0);
            checks.equal("at first", x.version(0, 0), 0);
            x.tick(1);
            checks.equal("measured once", x.version(0, 0), 1);
            checks.equal("no news", x.version(0, 7), 0);
            checks.equal("nor with the last one", x.version(7, 0), 0);
        });
        checks.test("Promise 21", "Returns the version of the news of a member of a reach.", () -> {
            GossipGates x = new GossipGates();
            for (int i = 0; i < 50; i++) {
                x.tick(100);
            }
            checks.equal("measured in all ticks", x.version(7, 7), 5000);
            checks.isTrue("told", x.version(0, 7) >= 4990);
        });
    }

    private static void promise22() {
        checkRanges("Promise 22", REACH, (x, member, reach) -> x.age(member, reach));
        checks.test("Promise 22", "NONE if it has none.", () -> {
            GossipGates x = Scenes.onlyUp(0);
            checks.equal("at first, its own", x.age(0, 0), NONE);
            x.tick(10);
            checks.equal("none of the last", x.age(0, 7), NONE);
            checks.equal("the last one has none of its own", x.age(7, 7), NONE);
        });
        checks.test("Promise 22", "Returns how many ticks ago the news of a member of a reach was"
            + " measured", () -> {
                GossipGates x = new GossipGates();
                x.tick(1);
                checks.equal("0, measured in this tick", x.age(0, 0), 0);
                checks.equal("0, told in this tick", x.age(0, 6), 0);
                x.setGroup(0, 1);
                x.fall(7);
                for (int i = 1; i < 50; i++) {
                    x.tick(100);
                    checks.equal("of the tick 1", x.age(0, 6), 100 * i);
                    checks.equal("of the one that is down", x.age(7, 7), 100 * i);
                }
                x.tick(99);
                checks.equal("the greatest", x.age(0, 6), 4999);
            });
        checks.test("Promise 22", "was measured", () -> {
            GossipGates x = new GossipGates();
            for (int time = 1; time <= 25; time++) {
                x.tick(1);
                for (int member = 0; member < 8; member++) {
                    int reach = (member + time) % 8;
                    // In a whole net the version tells the tick in which it was measured.
                    int version = x.version(member, reach);
                    checks.equal("news of the tick " + version, x.age(member, reach),
                        version == 0 ? NONE : time - version);
                }
            }
        });
        checks.test("Promise 22", "was measured", () -> {
            GossipGates x = new GossipGates();
            x.tick(5);
            x.fall(7);
            x.tick(5);
            for (int member = 0; member < 7; member++) {
                checks.equal("not told", x.age(member, 7), 5);
            }
        });
    }

    private static void promise23() {
        checkRanges("Promise 23", OTHER, (x, member, other) -> x.beat(member, other));
        checks.test("Promise 23", "Returns the beat of another member, or of itself, that a member"
            + " keeps.", () -> {
                GossipGates x = Scenes.onlyUp(0, 6);
                checks.equal("of itself, at first", x.beat(0, 0), 0);
                x.tick(1);
                checks.equal("of itself", x.beat(0, 0), 1);
                checks.equal("of another one that it told", x.beat(0, 6), 1);
                checks.equal("of another one that is down", x.beat(0, 7), 0);
                checks.equal("down, of itself", x.beat(7, 7), 0);
                checks.equal("down, of another one", x.beat(7, 0), 0);
                x.setGroup(6, 1);
                x.tick(99);
                checks.equal("of itself, in each tick", x.beat(0, 0), 100);
                checks.equal("of another one, as it was told", x.beat(0, 6), 1);
            });
    }

    private static void promise24() {
        checkRanges("Promise 24", OTHER, (x, member, other) -> x.status(member, other));
        checks.test("Promise 24", "Returns the status in which a member holds another one, or"
            + " itself.", () -> {
                for (int member = 0; member < 8; member += 7) {
                    GossipGates x = new GossipGates();
                    x.setGroup(member, 1);
                    x.setTimes(2, 4);
                    int[] due = {ALIVE, ALIVE, ALIVE, SUSPECTED, SUSPECTED, DEAD, DEAD};
                    for (int time = 0; time < due.length; time++) {
                        checks.equal("another one at " + time, x.status(member, 3), due[time]);
                        checks.equal("by that one", x.status(3, member), due[time]);
                        checks.equal("itself at " + time, x.status(member, member), ALIVE);
                        checks.equal("one of its group", x.status(3, 4), ALIVE);
                        x.tick(1);
                    }
                }
            });
    }

    private static void promise25() {
        checks.test("Promise 25", MEMBER, () -> {
            GossipGates x = new GossipGates();
            checks.range("partner", 0, 7, member -> x.partner(member));
        });
        checks.test("Promise 25", "Returns the member that a member would call in the next tick",
            MembersEdgesTest::partnersOfTheNextTick);
        checks.test("Promise 25", "if nothing else changed ahead of its call", () -> {
            GossipGates x = new GossipGates();
            x.setTimes(1, 1);
            x.tick(6);
            // It is told of 5, which it holds DEAD, ahead of its call, and calls 6: TermsEdgesTest.
            checks.equal("by what is now", x.partner(4), 7);
        });
        checks.test("Promise 25", "NONE if it is down", () -> {
            GossipGates x = Scenes.onlyUp();
            for (int member = 0; member < 8; member++) {
                checks.equal("down", x.partner(member), NONE);
                x.comeUp(member);
                checks.isTrue("up", x.partner(member) != NONE);
            }
        });
        checks.test("Promise 25", "or there is none.", () -> {
            GossipGates x = Scenes.onlyUp(7);
            x.tick(6);
            checks.isTrue("SUSPECTED are there", x.partner(7) != NONE);
            x.tick(2);
            for (int time = 9; time <= 20; time++) {
                int place = (5 * time + 21) % 7;
                checks.equal("DEAD are there in every fourth tick", x.partner(7),
                    time % 4 == 0 ? place : NONE);
                x.tick(1);
            }
        });
    }

    private static void partnersOfTheNextTick() {
        GossipGates x = new GossipGates();
        checks.equal("in the tick 1, 5 mod 7", x.partner(0), 6);
        checks.equal("the last: (5 + 21) mod 7", x.partner(7), 5);
        checks.equal("asked again", x.partner(0), 6);
        x.setGroup(6, 1);
        checks.equal("in another group", x.partner(0), 6);
        x.fall(6);
        checks.equal("down", x.partner(0), 6);
        x.tick(1);
        checks.equal("which is in vain", x.version(0, 6), 0);
        GossipGates late = Scenes.onlyUp(0);
        for (int i = 0; i < 49; i++) {
            late.tick(100);
        }
        late.tick(99);
        checks.equal("in the last tick: 25000 mod 7 is 3", late.partner(0), 4);
    }

    private static void promise26() {
        checks.test("Promise 26", REACH, () -> {
            GossipGates x = new GossipGates();
            checks.range("freshest", 0, 7, reach -> x.freshest(reach));
        });
        checks.test("Promise 26", "Returns the lowest member", () -> {
            GossipGates x = new GossipGates();
            x.tick(1);
            checks.equal("0 and 6 have the same", x.version(0, 6), x.version(6, 6));
            checks.equal("the lowest", x.freshest(6), 0);
            checks.equal("5 and 7 have the same", x.version(5, 7), x.version(7, 7));
            checks.equal("the lowest", x.freshest(7), 5);
        });
        checks.test("Promise 26", "up or down", () -> {
            GossipGates x = new GossipGates();
            x.tick(1);
            x.fall(0);
            x.fall(6);
            checks.equal("down", x.freshest(6), 0);
            x.tick(5);
            checks.equal("down for long", x.freshest(0), 0);
        });
        checks.test("Promise 26", "that has the news with the greatest version of a reach", () -> {
            GossipGates x = new GossipGates();
            x.tick(20);
            x.setGroup(7, 1);
            x.tick(1);
            for (int member = 0; member < 7; member++) {
                checks.isTrue("lesser", x.version(member, 7) < 21);
            }
            checks.equal("the last member", x.freshest(7), 7);
            x.setGroup(0, 1);
            x.tick(1);
            checks.equal("the first member", x.freshest(0), 0);
        });
        checks.test("Promise 26", "NONE if there is no news of it.", () -> {
            GossipGates x = Scenes.onlyUp(7);
            checks.equal("at first", x.freshest(7), NONE);
            x.tick(1);
            checks.equal("its own", x.freshest(7), 7);
            checks.equal("of the first", x.freshest(0), NONE);
            x.fall(7);
            x.tick(100);
            checks.equal("news stay", x.freshest(7), 7);
        });
    }

    private static void promise27() {
        checks.test("Promise 27", REACH, () -> {
            GossipGates x = new GossipGates();
            checks.range("agree", 0, 7, reach -> x.agree(reach));
        });
        checks.test("Promise 27", "members that are up", () -> {
            GossipGates x = Scenes.calm(Scenes.all(30));
            checks.equal("all", x.agree(7), 8);
            for (int member = 0; member < 8; member++) {
                x.fall(member);
                checks.equal("those that are up", x.agree(7), 7 - member);
            }
        });
        checks.test("Promise 27", "and have news of a reach", () -> {
            GossipGates x = new GossipGates();
            checks.equal("none has", x.agree(0), 0);
            x.setGroup(0, 1);
            x.tick(20);
            checks.equal("an empty reach: one has", x.agree(0), 1);
            checks.equal("an empty reach: seven have", x.agree(7), 7);
        });
        checks.test("Promise 27", "believe the level that it has.", () -> {
            GossipGates x = Scenes.calm(Scenes.all(30));
            x.setGroup(7, 1);
            x.rain(7, 100);
            x.tick(1);
            checks.equal("the last one alone knows of the new level", x.agree(7), 1);
            x.shape(7, 50, 1000);
            checks.equal("none knows of the level that it has now", x.agree(7), 0);
            x.tick(1);
            checks.equal("measured again", x.agree(7), 1);
        });
    }

    private static void promise28() {
        checks.test("Promise 28", "Returns how many members are down", () -> {
            GossipGates x = new GossipGates();
            checks.equal("none", x.unnoticed(), 0);
            for (int member = 0; member < 7; member++) {
                x.fall(member);
                checks.equal("down", x.unnoticed(), member + 1);
            }
            x.fall(7);
            checks.equal("none is up that could hold them ALIVE", x.unnoticed(), 0);
            x.comeUp(0);
            checks.equal("one is up", x.unnoticed(), 7);
        });
        checks.test("Promise 28", "that some member that is up holds ALIVE.", () -> {
            GossipGates x = Scenes.onlyUp(0);
            x.tick(3);
            checks.equal("ALIVE still", x.unnoticed(), 7);
            x.tick(1);
            checks.equal("SUSPECTED", x.unnoticed(), 0);
            x.tick(3);
            checks.equal("DEAD", x.unnoticed(), 0);
        });
        checks.test("Promise 28", "some member that is up", () -> {
            GossipGates x = new GossipGates();
            x.setGroup(7, 1);
            x.tick(4);
            x.fall(0);
            checks.equal("7 suspects it, the others do not", x.unnoticed(), 1);
            for (int member = 1; member < 6; member++) {
                x.fall(member);
                checks.equal("one after the other", x.unnoticed(), member + 1);
            }
            x.fall(6);
            checks.equal("7 suspects all", x.unnoticed(), 0);
        });
    }

    private static void promise29() {
        checks.test("Promise 29", "of which the first one holds the second one DEAD.", () -> {
            GossipGates x = new GossipGates();
            x.setGroup(7, 1);
            x.tick(6);
            checks.equal("SUSPECTED", x.mistaken(), 0);
            x.tick(1);
            checks.equal("each way counts", x.mistaken(), 7 + 7);
        });
        checks.test("Promise 29", "both up", () -> {
            GossipGates x = new GossipGates();
            x.setGroup(7, 1);
            x.tick(7);
            x.fall(0);
            checks.equal("one of the others is down", x.mistaken(), 6 + 6);
            x.fall(7);
            checks.equal("the one is down", x.mistaken(), 0);
            x.comeUp(7);
            checks.equal("up again", x.mistaken(), 6 + 6);
        });
        checks.test("Promise 29", "pairs of unlike members", () -> {
            GossipGates x = new GossipGates();
            checks.equal("none at first", x.mistaken(), 0);
            for (int member = 0; member < 4; member++) {
                x.setGroup(member, member);
                x.setGroup(7 - member, member);
            }
            x.tick(100);
            checks.equal("all but itself and the other one of its group", x.mistaken(), 8 * 6);
        });
    }

    private static void promise30() {
        checks.test("Promise 30", "Returns how many calls were in vain.", () -> {
            GossipGates x = new GossipGates();
            checks.equal("none at first", x.vain(), 0);
            x.tick(100);
            checks.equal("none in a whole net", x.vain(), 0);
            for (int member = 1; member < 4; member++) {
                x.setGroup(member, member);
            }
            for (int member = 4; member < 8; member++) {
                x.fall(member);
            }
            x.tick(1);
            checks.equal("each one that is up, alone in its group", x.vain(), 4);
            x.tick(99);
            checks.isTrue("in the other ticks too", x.vain() > 4 + 4 * 24);
        });
        checks.test("Promise 30", "Returns how many calls were in vain.", () -> {
            GossipGates x = Scenes.onlyUp(0);
            x.tick(7);
            checks.equal("down, in the ticks 1 to 7", x.vain(), 7);
            for (int i = 0; i < 49; i++) {
                x.tick(100);
            }
            checks.equal("from then on, in every fourth", x.vain(), 7 + (4907 / 4 - 1));
        });
    }
}
