/** The edges that the section "A tick" names; a test for each sentence. */
public final class TickEdgesTest {
    private static final Checks checks = new Checks();

    public static void main(String[] args) {
        step1();
        step2();
        step3();
        step4();
        step5();
        step6();
        step7();
        checks.end();
    }

    private static void step1() {
        checks.test("A tick, 1", "The time becomes 1 more.", () -> {
            GossipGates x = new GossipGates();
            x.tick(1);
            checks.equal("the first tick", x.time(), 1);
            checks.equal("what is measured in it is of now", x.age(0, 0), 0);
        });
        checks.test("A tick, 1", "The source flows into the reach 0", () -> {
            GossipGates x = Scenes.shutRiver();
            x.tick(1);
            checks.equal("no source", x.volume(0), 0);
            x.setSource(1000);
            x.tick(1);
            checks.equal("the greatest one", x.volume(0), 1000);
            for (int reach = 1; reach < 8; reach++) {
                checks.equal("into no other reach", x.volume(reach), 0);
            }
        });
        checks.test("A tick, 1", "what has been told to rain since the last tick falls into the"
            + " reaches.", TickEdgesTest::rainFallsOnce);
        checks.test("A tick, 1", "what has been told to rain since the last tick falls into the"
            + " reaches.", TickEdgesTest::rainAndSourceFlowOnInTheSameTick);
    }

    private static void rainFallsOnce() {
        GossipGates x = Scenes.shutRiver();
        for (int reach = 0; reach < 8; reach++) {
            x.rain(reach, reach + 1);
        }
        x.tick(3);
        for (int reach = 0; reach < 8; reach++) {
            checks.equal("once, reach " + reach, x.volume(reach), reach + 1);
        }
        x.rain(7, 1);
        x.tick(1);
        checks.equal("since the last tick alone", x.volume(7), 9);
        checks.equal("where it rained alone", x.volume(0), 1);
    }

    private static void rainAndSourceFlowOnInTheSameTick() {
        GossipGates x = Scenes.shutRiver();
        x.byHand(0, 1);
        x.byHand(7, 1);
        x.setSource(2);
        x.rain(0, 3);
        x.rain(7, 5);
        x.tick(1);
        checks.equal("through the gate 0", x.flowed(0), 5);
        checks.equal("through the gate 7", x.flowed(7), 5);
    }

    private static void step2() {
        checks.test("A tick, 2", "Each gate lets opening * gauge flow through", () -> {
            checks.equal("0 * 50", flowThrough(0, 50, 1000), 0);
            checks.equal("1 * 1", flowThrough(1, 1, 1000), 1);
            checks.equal("1 * 50", flowThrough(1, 50, 1000), 50);
            checks.equal("10 * 1", flowThrough(10, 1, 1000), 10);
            checks.equal("10 * 50", flowThrough(10, 50, 1000), 500);
        });
        checks.test("A tick, 2", "but no more than the volume of its reach", () -> {
            checks.equal("an empty reach", flowThrough(10, 50, 0), 0);
            checks.equal("a drop", flowThrough(10, 50, 1), 1);
            checks.equal("one too little", flowThrough(10, 50, 499), 499);
            checks.equal("just enough", flowThrough(10, 50, 500), 500);
            checks.equal("one left", flowThrough(10, 50, 501), 500);
        });
        checks.test("A tick, 2", "by the volumes that there are then, all at once", () -> {
            GossipGates x = openRiver();
            x.rain(0, 7);
            for (int reach = 0; reach < 8; reach++) {
                x.tick(1);
                for (int other = 0; other < 8; other++) {
                    checks.equal("one reach in a tick, " + reach + ", reach " + other,
                        x.volume(other), other == reach + 1 ? 7 : 0);
                }
            }
        });
        checks.test("A tick, 2", "by the volumes that there are then", () -> {
            GossipGates x = Scenes.shutRiver();
            x.byHand(0, 1);
            x.rain(0, 1005);
            checks.equal("what flows does not spill any more", x.tick(1), 0);
            checks.equal("it flowed", x.flowed(0), 5);
        });
        checks.test("A tick, 2", "from the reach 7 out of the river.", () -> {
            GossipGates x = openRiver();
            x.rain(7, 500);
            x.tick(1);
            checks.equal("out", x.flowed(7), 500);
            for (int reach = 0; reach < 8; reach++) {
                checks.equal("into no reach", x.volume(reach), 0);
            }
        });
    }

    private static GossipGates openRiver() {
        GossipGates x = new GossipGates();
        for (int gate = 0; gate < 8; gate++) {
            x.setGauge(gate, 50);
            x.byHand(gate, 10);
        }
        return x;
    }

    private static int flowThrough(int opening, int gauge, int volume) {
        int flowed = 0;
        for (int gate = 0; gate < 8; gate += 7) {
            GossipGates x = Scenes.shutRiver();
            x.setGauge(gate, gauge);
            x.byHand(gate, opening);
            Scenes.pour(x, gate, volume);
            x.tick(1);
            flowed = x.flowed(gate);
            checks.equal("what stays, gate " + gate, x.volume(gate), volume - flowed);
            if (gate == 0) {
                checks.equal("what comes", x.volume(1), flowed);
            }
        }
        return flowed;
    }

    private static void step3() {
        checks.test("A tick, 3", "By rising reaches", () -> {
            GossipGates x = Scenes.shutRiver();
            for (int reach = 0; reach < 8; reach++) {
                x.rain(reach, 1000);
            }
            x.tick(1);
            x.rain(0, 1);
            checks.equal("through all full reaches in one tick", x.tick(1), 8);
            for (int reach = 0; reach < 8; reach++) {
                checks.equal("spilled from " + reach, x.spilled(reach), 1);
                checks.equal("full still " + reach, x.volume(reach), 1000);
            }
        });
        String above = "what a reach has above area * depth spills into the next one";
        checks.test("A tick, 3", above, () -> {
            checkSpill(1, 1);
            checkSpill(100, 1000);
            checkSpill(10, 100);
        });
        checks.test("A tick, 3", above, () -> {
            GossipGates x = Scenes.shutRiver();
            x.rain(1, 1000);
            x.rain(0, 5);
            x.byHand(0, 1);
            checks.equal("what just flowed into it too", x.tick(1), 5);
            checks.equal("into the next one", x.volume(2), 5);
        });
        checks.test("A tick, 3", "from the reach 7 out of the river.", () -> {
            GossipGates x = Scenes.shutRiver();
            x.rain(7, 1001);
            checks.equal("out", x.tick(1), 1);
            checks.equal("full", x.volume(7), 1000);
            checks.equal("not into the reach 0", x.volume(0), 0);
        });
    }

    private static void checkSpill(int area, int depth) {
        for (int reach = 0; reach < 8; reach += 6) {
            GossipGates x = Scenes.shutRiver();
            x.shape(reach, area, depth);
            int full = area * depth;
            Scenes.pour(x, reach, full - 1);
            checks.equal("one below", x.tick(1), 0);
            x.rain(reach, 1);
            checks.equal("full", x.tick(1), 0);
            checks.equal("all stays", x.volume(reach), full);
            x.rain(reach, 1);
            checks.equal("one above", x.tick(1), 1);
            checks.equal("full again", x.volume(reach), full);
            checks.equal("in the next one", x.volume(reach + 1), 1);
        }
    }

    private static void step4() {
        checks.test("A tick, 4", "Each member that is up measures the level of its reach", () -> {
            GossipGates x = Scenes.shutRiver();
            x.rain(7, 2000);
            x.tick(1);
            checks.equal("an empty reach", x.believed(0, 0), 0);
            checks.equal("a full one, after it has spilled", x.believed(7, 7), 100);
        });
        checks.test("A tick, 4", "Each member that is up measures the level of its reach", () -> {
            GossipGates x = Scenes.shutRiver();
            x.rain(0, 100);
            x.rain(7, 100);
            x.byHand(0, 10);
            x.byHand(7, 10);
            x.tick(1);
            checks.equal("after water flowed out", x.believed(0, 0), 5);
            checks.equal("also from the reach 7", x.believed(7, 7), 5);
            checks.equal("and into the next one", x.believed(1, 1), 5);
        });
        checks.test("A tick, 4", "the version of its news of it becomes 1 more",
            () -> checkGrowth(true));
        checks.test("A tick, 4", "its own beat becomes 1 more", () -> checkGrowth(false));
        checks.test("A tick, 4", "Each member that is up measures", () -> {
            GossipGates x = Scenes.onlyUp();
            x.tick(9);
            for (int member = 0; member < 8; member++) {
                checks.equal("down: no version", x.version(member, member), 0);
                checks.equal("no beat", x.beat(member, member), 0);
                checks.equal("no news", x.believed(member, member), GossipGates.NONE);
            }
        });
    }

    private static void checkGrowth(boolean isVersion) {
        GossipGates x = new GossipGates();
        x.setStuck(7, true);
        for (int time = 1; time <= 30; time++) {
            x.tick(1);
            for (int member = 0; member < 8; member++) {
                int got = isVersion ? x.version(member, member) : x.beat(member, member);
                checks.equal("the member " + member, got, time);
            }
        }
    }

    private static void step5() {
        checks.test("A tick, 5", "Each member that is up, by rising numbers, calls one",
            TickEdgesTest::callsByRisingNumbers);
        checks.test("A tick, 5", "Each member that is up, by rising numbers, calls one", () -> {
            GossipGates x = Scenes.onlyUp();
            x.tick(100);
            checks.equal("all down: none calls, not in vain either", x.vain(), 0);
        });
        checks.test("A tick, 5", "of the other members which it does not hold DEAD",
            TickEdgesTest::callsNoneHeldDead);
        checks.test("A tick, 5", "in every tick that is a multiple of 4 of all others",
            TickEdgesTest::callsOfAllOthers);
        checks.test("A tick, 5", "the one at the place (5 * time + 3 * its own number) modulo their"
            + " number", TickEdgesTest::places);
        checks.test("A tick, 5", "If the one called is up and in the same group, both tell one"
            + " another; otherwise it called in vain.", TickEdgesTest::inVain);
        checks.test("A tick, 5", "both tell one another", TickEdgesTest::aloneInItsGroup);
        checks.test("A tick, 5", "If there is none, it does not call.", () -> {
            GossipGates x = Scenes.onlyUp(7);
            x.setTimes(1, 1);
            x.tick(2);
            checks.equal("in the ticks 1 and 2", x.vain(), 2);
            x.tick(1);
            checks.equal("all are DEAD: not in the tick 3", x.vain(), 2);
            x.tick(1);
            checks.equal("of all others in the tick 4", x.vain(), 3);
            x.tick(3);
            checks.equal("none from the tick 5 on", x.vain(), 3);
        });
    }

    /**
     * In the tick 1, 0 calls 6, and then 3 calls 0, and then 4 calls 3: so the news of 6 come to 4.
     * By falling numbers, or all at once, they would not come so far.
     */
    private static void callsByRisingNumbers() {
        GossipGates x = new GossipGates();
        x.tick(1);
        checks.equal("0 called 6", x.version(6, 0), 1);
        checks.equal("from 6 by 0 to 3", x.version(3, 6), 1);
        checks.equal("from 6 by 0 and 3 to 4", x.version(4, 6), 1);
        checks.equal("0 called 6 ahead of 3 calling 0", x.version(6, 3), 0);
        checks.equal("4 called 3 after 3 called 0", x.version(0, 4), 0);
    }

    /**
     * 0 and 1 alone are up: in the tick 5, (25 + 3) mod 7 is 0, 1 calls 0, in the tick 7 0 calls 1;
     * what they never heard of is DEAD after the tick 7, and each has one to call.
     */
    private static void callsNoneHeldDead() {
        GossipGates x = Scenes.onlyUp(0, 1);
        x.tick(8);
        int vain = x.vain();
        for (int time = 9; time <= 11; time++) {
            checks.equal("0 would call 1", x.partner(0), 1);
            checks.equal("1 would call 0", x.partner(1), 0);
            x.tick(1);
            checks.equal("told", x.version(0, 1), time);
            checks.equal("both ways", x.version(1, 0), time);
        }
        checks.equal("none in vain", x.vain(), vain);
        GossipGates suspected = Scenes.onlyUp(0);
        suspected.tick(4);
        checks.equal("SUSPECTED", suspected.status(0, 5), GossipGates.SUSPECTED);
        checks.equal("is called: (25 + 0) mod 7 is 4", suspected.partner(0), 5);
    }

    /** The member 0 alone is up, and holds all DEAD; of all others it calls one in four ticks. */
    private static void callsOfAllOthers() {
        GossipGates x = Scenes.onlyUp(0);
        x.setTimes(1, 1);
        x.tick(2);
        int vain = x.vain();
        for (int time = 3; time <= 40; time++) {
            boolean isOfAll = time % 4 == 0;
            int due = isOfAll ? 5 * time % 7 + 1 : GossipGates.NONE;
            checks.equal("partner for the tick " + time, x.partner(0), due);
            x.tick(1);
            vain += isOfAll ? 1 : 0;
            checks.equal("in vain till the tick " + time, x.vain(), vain);
        }
    }

    /** Of seven others, the places 0 to 6 are the others by rising numbers. */
    private static void places() {
        GossipGates x = new GossipGates();
        x.setTimes(50, 100);
        for (int time = 1; time <= 14; time++) {
            int first = 5 * time % 7;
            checks.equal("0, tick " + time, x.partner(0), first + 1);
            int last = (5 * time + 21) % 7;
            checks.equal("7, tick " + time, x.partner(7), last);
            int middle = (5 * time + 9) % 7;
            checks.equal("3, tick " + time, x.partner(3), middle < 3 ? middle : middle + 1);
            x.tick(1);
        }
    }

    private static void inVain() {
        checks.equal("down", vainOfTick1(true, 0), 1);
        checks.equal("in another group", vainOfTick1(false, 1), 1);
        checks.equal("in the last group", vainOfTick1(false, 3), 1);
        checks.equal("both, counted once", vainOfTick1(true, 1), 1);
        checks.equal("up, in the same group", vainOfTick1(false, 0), 0);
    }

    /**
     * Whether 0 calls in vain in the tick 1: it calls 6, at the place 5; 6, if it is up, calls 2,
     * at the place (5 + 18) mod 7, that is down.
     */
    private static int vainOfTick1(boolean isDown, int group) {
        GossipGates x = isDown ? Scenes.onlyUp(0) : Scenes.onlyUp(0, 6);
        x.setGroup(6, group);
        x.tick(1);
        boolean isTold = !isDown && group == 0;
        checks.equal("told", x.version(0, 6), isTold ? 1 : 0);
        checks.equal("both ways", x.version(6, 0), isTold ? 1 : 0);
        checks.equal("beats too", x.beat(0, 6), isTold ? 1 : 0);
        return x.vain() - (isDown ? 0 : 1);
    }

    private static void aloneInItsGroup() {
        for (int alone = 0; alone < 8; alone += 7) {
            GossipGates x = new GossipGates();
            x.setGroup(alone, 3);
            x.tick(50);
            for (int other = 0; other < 8; other++) {
                if (other != alone) {
                    checks.equal("it hears of none", x.version(alone, other), 0);
                    checks.equal("none hears of it", x.version(other, alone), 0);
                    checks.equal("no beat", x.beat(alone, other) + x.beat(other, alone), 0);
                    checks.equal("it holds all DEAD", x.status(alone, other), GossipGates.DEAD);
                    checks.equal("and is held so", x.status(other, alone), GossipGates.DEAD);
                }
            }
            checks.equal("it measures", x.version(alone, alone), 50);
        }
    }

    private static void step6() {
        checks.test("A tick, 6", "one whose beat grew last with it more than the time for death ago"
            + " is DEAD", () -> checkSilence(1, 9));
        checks.test("A tick, 6", "otherwise, if more than the time for suspicion ago, SUSPECTED",
            () -> checkSilence(4, 12));
        checks.test("A tick, 6", "otherwise ALIVE.", TickEdgesTest::aliveAgain);
        checks.test("A tick, 6", "The times are 6 and 3 at first.", TickEdgesTest::timesAtFirst);
        checks.test("A tick, 6", "Each member that is up looks at all others", () -> {
            GossipGates x = Scenes.onlyUp(3);
            x.tick(50);
            for (int member = 0; member < 8; member++) {
                checks.equal("who is down does not look", x.status(member, 3), GossipGates.ALIVE);
                checks.equal("who is up looks", x.status(3, member),
                    member == 3 ? GossipGates.ALIVE : GossipGates.DEAD);
            }
        });
    }

    private static int statusBy(int silence, int suspicion, int death) {
        return silence > death ? GossipGates.DEAD
            : silence > suspicion ? GossipGates.SUSPECTED : GossipGates.ALIVE;
    }

    /** A beat that is another one than in the tick before has grown in this tick. */
    private static void checkSilence(int suspicion, int death) {
        GossipGates x = new GossipGates();
        x.setTimes(suspicion, death);
        int[] beats = new int[7];
        int[] grown = new int[7];
        for (int time = 1; time <= 30; time++) {
            if (time == 11) {
                x.fall(7);
            }
            x.tick(1);
            for (int member = 0; member < 7; member++) {
                int beat = x.beat(member, 7);
                grown[member] = beat == beats[member] ? grown[member] : time;
                beats[member] = beat;
                int silence = time - grown[member];
                checks.equal("the member " + member + ", grown " + silence + " ticks ago",
                    x.status(member, 7), statusBy(silence, suspicion, death));
            }
        }
    }

    private static void aliveAgain() {
        GossipGates x = new GossipGates();
        x.fall(0);
        x.tick(20);
        checks.equal("DEAD", x.status(7, 0), GossipGates.DEAD);
        x.comeUp(0);
        x.tick(8);
        for (int member = 1; member < 8; member++) {
            checks.equal("heard of again", x.status(member, 0), GossipGates.ALIVE);
        }
    }

    private static void timesAtFirst() {
        GossipGates x = Scenes.onlyUp(0);
        for (int time = 1; time <= 9; time++) {
            x.tick(1);
            checks.equal("after the tick " + time, x.status(0, 7), statusBy(time, 3, 6));
        }
    }

    private static void step7() {
        String place = "A tick, 7";
        checks.test(place, "Each member that is up rules its gate, if no hand has it",
            TickEdgesTest::whoRules);
        checks.test(place, "if it has no news of the next reach", () -> {
            for (int gate = 0; gate < 7; gate++) {
                GossipGates x = Scenes.onlyUp(gate);
                x.setRule(gate, 0, 1000, 1000, 100);
                x.tick(1);
                checks.equal("none, gate " + gate, x.safety(gate), 1);
                checks.equal("2 more", x.opening(gate), 2);
            }
        });
        checks.test(place, "or that was measured more ticks ago than the age of the rule",
            TickEdgesTest::ageOfNews);
        checks.test(place, "the opening becomes 2 more, but 10 at most", () -> {
            for (int opening = 0; opening <= 10; opening++) {
                GossipGates x = Scenes.onlyUp(0);
                checks.equal("from " + opening, Scenes.ruledOnce(x, 0, opening),
                    opening < 8 ? opening + 2 : 10);
            }
        });
        checks.test(place, "this counts as opening for safety, also if it is 10 already.", () -> {
            for (int opening = 0; opening <= 10; opening += 10) {
                GossipGates x = Scenes.onlyUp(6);
                Scenes.ruledOnce(x, 6, opening);
                checks.equal("once, from " + opening, x.safety(6), 1);
                x.tick(9);
                checks.equal("in each tick", x.safety(6), 10);
            }
        });
        levelsOfStep7();
        checks.test(place, "The gate 7 has no next reach: nothing is old for it, and no bound"
            + " counts.", TickEdgesTest::theGate7);
    }

    private static void whoRules() {
        GossipGates down = new GossipGates();
        down.byHand(0, 4);
        down.byHand(0, GossipGates.NONE);
        down.fall(0);
        down.tick(20);
        checks.equal("down: the gate stays", down.opening(0), 4);
        checks.equal("and does not open for safety", down.safety(0), 0);
        GossipGates hand = new GossipGates();
        hand.byHand(0, 4);
        hand.tick(20);
        checks.equal("in a hand: the gate stays", hand.opening(0), 4);
        checks.equal("and does not open for safety", hand.safety(0), 0);
        hand.byHand(0, GossipGates.NONE);
        hand.setGroup(0, 1);
        hand.tick(6);
        checks.isTrue("given back: it rules", hand.safety(0) > 0);
    }

    /** In the tick 1 the members 1 and 3 are told of the next reaches: see MembersTest. */
    private static void ageOfNews() {
        for (int gate = 1; gate <= 3; gate += 2) {
            GossipGates x = new GossipGates();
            x.setRule(gate, 20, 40, 80, 0);
            x.tick(1);
            checks.equal("news of now", x.age(gate, gate + 1), 0);
            checks.equal("are not old by the age 0", x.safety(gate), 0);
            x.setGroup(gate, 1);
            x.tick(1);
            checks.equal("news of the tick before", x.age(gate, gate + 1), 1);
            checks.equal("are old by it", x.safety(gate), 1);
        }
        for (int gate = 0; gate < 7; gate += 6) {
            for (int age : new int[] {5, 17, 100}) {
                GossipGates x = Scenes.aged(gate, age, Scenes.all(30));
                x.setRule(gate, 20, 40, 80, age);
                checks.equal("as old as the rule", Scenes.ruledOnce(x, gate, 5), 5);
                checks.equal("that old", x.age(gate, gate + 1), age);
                checks.equal("not for safety", x.safety(gate), 0);
                x.tick(1);
                checks.equal("one tick older", x.opening(gate), 7);
                checks.equal("for safety", x.safety(gate), 1);
            }
        }
    }

    private static int ruledBy(int[] levels, int gate, int opening, int low, int high, int bound) {
        GossipGates x = Scenes.calm(levels);
        x.setRule(gate, low, high, bound, 100);
        int after = Scenes.ruledOnce(x, gate, opening);
        checks.equal("the level of the gate " + gate, x.level(gate), levels[gate]);
        checks.equal("none for safety", x.safety(gate), 0);
        return after;
    }

    private static void levelsOfStep7() {
        String place = "A tick, 7";
        String above = "if the level that it has of its own reach is above the high one";
        checks.test(place, above, () -> {
            for (int gate = 0; gate < 8; gate++) {
                checks.equal("at", ruledBy(Scenes.all(33), gate, 5, 11, 33, 34), 5);
                checks.equal("above", ruledBy(Scenes.all(34), gate, 5, 11, 33, 35), 6);
            }
        });
        checks.test(place, "the level that it has of its own reach", () -> {
            GossipGates x = Scenes.calm(Scenes.all(30));
            x.setStuck(0, true);
            Scenes.pour(x, 0, 3000);
            checks.equal("not the one that there is", Scenes.ruledOnce(x, 0, 5), 5);
            checks.equal("which is above", x.level(0), 60);
        });
        checks.test(place, "and the level that it has of the next reach is below the bound", () -> {
            for (int gate = 0; gate < 7; gate++) {
                int[] levels = Scenes.allBut(50, gate + 1, 66);
                checks.equal("at", ruledBy(levels, gate, 5, 20, 40, 66), 5);
                checks.equal("below", ruledBy(levels, gate, 5, 20, 40, 67), 6);
                checks.equal("above", ruledBy(levels, gate, 5, 20, 40, 65), 5);
                checks.equal("far above", ruledBy(levels, gate, 5, 20, 40, 0), 5);
            }
        });
        checks.test(place, "the level that it has of the next reach", () -> {
            GossipGates x = Scenes.calm(Scenes.allBut(50, 1, 79));
            x.setGroup(0, 1);
            Scenes.pour(x, 1, 1000);
            checks.equal("not the one that there is", Scenes.ruledOnce(x, 0, 5), 6);
            checks.equal("which is not below", x.level(1), 89);
        });
        checks.test(place, "the opening becomes 1 more, but 10 at most", () -> {
            for (int opening = 0; opening <= 10; opening++) {
                checks.equal("from " + opening, ruledBy(Scenes.all(50), 0, opening, 20, 40, 80),
                    Math.min(opening + 1, 10));
            }
            checks.equal("the gate 7", ruledBy(Scenes.all(50), 7, 10, 20, 40, 80), 10);
        });
        checks.test(place, "if that of its own reach is below the low one, 1 less, but 0 at least.",
            TickEdgesTest::belowTheLowOne);
    }

    private static void belowTheLowOne() {
        for (int gate = 0; gate < 8; gate++) {
            checks.equal("at", ruledBy(Scenes.all(22), gate, 5, 22, 40, 80), 5);
            checks.equal("below", ruledBy(Scenes.all(21), gate, 5, 22, 40, 80), 4);
        }
        for (int opening = 0; opening <= 10; opening++) {
            checks.equal("from " + opening, ruledBy(Scenes.all(10), 0, opening, 20, 40, 80),
                Math.max(opening - 1, 0));
        }
        checks.equal("the gate 7", ruledBy(Scenes.all(10), 7, 0, 20, 40, 80), 0);
        checks.equal("whatever the bound", ruledBy(Scenes.all(10), 0, 5, 20, 40, 0), 4);
    }

    private static void theGate7() {
        GossipGates x = Scenes.onlyUp(7);
        x.setRule(7, 20, 40, 0, 0);
        x.rain(7, 1000);
        x.tick(1);
        checks.equal("1 more, of an empty net, with the bound 0", x.opening(7), 1);
        x.tick(8);
        checks.equal("1 more in each tick", x.opening(7), 9);
        checks.equal("never for safety", x.safety(7), 0);
    }
}
