/** Promises 15 to 30: members, their news, beats and statuses. */
public final class MembersTest {
    private static final Checks checks = new Checks();

    /** Which members each member has heard of after the tick 1 of a new object, by hand. */
    private static final String[] HEARD = {
        "036", "12", "01256", "0346", "0346", "1257", "01256", "1257"};

    public static void main(String[] args) {
        firstTick();
        secondTick();
        promise15Fall();
        promise16ComeUp();
        promise17SetGroup();
        promise18SetStuck();
        promise19SetTimes();
        promise20To22News();
        promise23Beat();
        promise24Status();
        promise25Partner();
        promise26Freshest();
        promise27Agree();
        promise28Unnoticed();
        promise29Mistaken();
        promise30Vain();
        wrongNumbers();
        checks.end();
    }

    private static void firstTick() {
        GossipGates x = Scenes.shutRiver();
        for (int i = 0; i < 8; i++) {
            x.rain(i, 10 * i + 10);
        }
        x.tick(1);
        for (int i = 0; i < 8; i++) {
            for (int j = 0; j < 8; j++) {
                boolean hasHeard = HEARD[i].indexOf('0' + j) >= 0;
                String pair = " " + i + " " + j;
                checks.equal("version" + pair, x.version(i, j), hasHeard ? 1 : 0);
                checks.equal("believed" + pair, x.believed(i, j), hasHeard ? j + 1 : -1);
                checks.equal("age" + pair, x.age(i, j), hasHeard ? 0 : -1);
                checks.equal("beat" + pair, x.beat(i, j), hasHeard ? 1 : 0);
                checks.equal("status" + pair, x.status(i, j), GossipGates.ALIVE);
            }
        }
    }

    private static void secondTick() {
        GossipGates x = new GossipGates();
        x.tick(1);
        // The places (10 + 3 * member) mod 7 are 3, 6, 2, 5, 1, 4, 0, 3.
        int[] partners = {4, 7, 3, 6, 1, 4, 0, 3};
        for (int i = 0; i < 8; i++) {
            checks.equal("partner " + i + " for the tick 2", x.partner(i), partners[i]);
        }
    }

    private static void promise15Fall() {
        GossipGates x = new GossipGates();
        x.rain(2, 300);
        x.tick(6);
        int opening = x.opening(2);
        int[] versions = new int[8];
        for (int i = 0; i < 8; i++) {
            versions[i] = x.version(2, i);
        }
        int safety = x.safety(2);
        x.fall(2);
        checks.state("fall twice", () -> x.fall(2));
        x.tick(30);
        for (int i = 0; i < 8; i++) {
            checks.equal("what it keeps stays " + i, x.version(2, i), versions[i]);
            checks.equal("its statuses stay " + i, x.status(2, i), GossipGates.ALIVE);
        }
        checks.equal("its beat stays", x.beat(2, 2), 6);
        checks.equal("its gate stays", x.opening(2), opening);
        checks.equal("its safety stays", x.safety(2), safety);
        for (int wrong : Checks.NOT_A_NUMBER) {
            checks.argument("fall " + wrong, () -> x.fall(wrong));
        }
    }

    private static void promise16ComeUp() {
        GossipGates x = new GossipGates();
        checks.state("comeUp, up", () -> x.comeUp(5));
        x.setGroup(5, 2);
        x.tick(20);
        checks.equal("held dead", x.status(5, 0), GossipGates.DEAD);
        x.fall(5);
        x.tick(30);
        x.comeUp(5);
        checks.state("comeUp twice", () -> x.comeUp(5));
        checks.equal("statuses are as they were, until it looks", x.status(5, 0), GossipGates.DEAD);
        for (int i = 1; i <= 8; i++) {
            x.tick(1);
            int due = i > 6 ? GossipGates.DEAD : i > 3 ? GossipGates.SUSPECTED : GossipGates.ALIVE;
            for (int other = 0; other < 8; other++) {
                checks.equal(i + " ticks after it came up", x.status(5, other),
                    other == 5 ? GossipGates.ALIVE : due);
            }
        }
        checks.equal("its version went on", x.version(5, 5), 28);
        checks.equal("its beat went on", x.beat(5, 5), 28);
        for (int wrong : Checks.NOT_A_NUMBER) {
            checks.argument("comeUp " + wrong, () -> x.comeUp(wrong));
        }
    }

    private static void promise17SetGroup() {
        GossipGates x = new GossipGates();
        checks.equal("group 0 at first", x.setGroup(0, 3), 0);
        checks.equal("group before", x.setGroup(0, 1), 3);
        x.setGroup(1, 1);
        x.tick(40);
        for (int i = 0; i < 8; i++) {
            for (int j = 0; j < 8; j++) {
                boolean isTold = i < 2 == j < 2;
                checks.isTrue("only within a group " + i + " " + j,
                    x.version(i, j) > 0 == isTold);
                checks.isTrue("beats too", x.beat(i, j) > 0 == isTold);
            }
        }
        for (int wrong : new int[] {-1, 4, Integer.MIN_VALUE, Integer.MAX_VALUE}) {
            checks.argument("group " + wrong, () -> x.setGroup(0, wrong));
        }
        for (int wrong : Checks.NOT_A_NUMBER) {
            checks.argument("setGroup member " + wrong, () -> x.setGroup(wrong, 0));
        }
        checks.equal("wrong groups changed nothing", x.setGroup(0, 0), 1);
        x.setGroup(1, 0);
        x.tick(40);
        checks.isTrue("one net again", x.version(7, 0) > 40 && x.version(0, 7) > 40);
    }

    private static void promise18SetStuck() {
        GossipGates x = Scenes.shutRiver();
        checks.isTrue("did not stick", !x.setStuck(4, true));
        checks.isTrue("stuck", x.setStuck(4, true));
        x.rain(4, 55);
        x.tick(1);
        checks.equal("never measured: 0", x.believed(4, 4), 0);
        checks.equal("a version nevertheless", x.version(4, 4), 1);
        checks.equal("of now", x.age(4, 4), 0);
        checks.isTrue("stuck till now", x.setStuck(4, false));
        x.tick(1);
        checks.equal("measures", x.believed(4, 4), 5);
        x.setStuck(4, true);
        x.rain(4, 100);
        x.tick(3);
        checks.equal("what it measured last", x.believed(4, 4), 5);
        checks.equal("versions go on", x.version(4, 4), 5);
        checks.equal("of now", x.age(4, 4), 0);
        checks.equal("the level is another one", x.level(4), 15);
        x.fall(4);
        x.tick(2);
        x.comeUp(4);
        x.tick(1);
        checks.equal("after a fall too", x.believed(4, 4), 5);
        checks.isTrue("stuck till now", x.setStuck(4, false));
        x.tick(1);
        checks.equal("measures again", x.believed(4, 4), 15);
        for (int wrong : Checks.NOT_A_NUMBER) {
            checks.argument("setStuck " + wrong, () -> x.setStuck(wrong, true));
        }
    }

    /** The statuses in which the others hold a member that never was up, tick by tick. */
    private static void checkTimes(GossipGates x, int suspicion, int death) {
        x.fall(7);
        for (int i = 1; i <= death + 3; i++) {
            x.tick(1);
            int due = i > death ? GossipGates.DEAD
                : i > suspicion ? GossipGates.SUSPECTED : GossipGates.ALIVE;
            boolean isEdge = i == suspicion || i == suspicion + 1 || i == death || i == death + 1;
            for (int member = isEdge ? 0 : i % 7; member <= (isEdge ? 6 : i % 7); member++) {
                checks.equal("times " + suspicion + ", " + death + ", tick " + i + ", member "
                    + member, x.status(member, 7), due);
            }
        }
    }

    private static void promise19SetTimes() {
        checkTimes(new GossipGates(), 3, 6);
        int[][] times = {{1, 1}, {1, 2}, {1, 100}, {50, 50}, {50, 100}, {4, 9}};
        for (int[] pair : times) {
            GossipGates x = new GossipGates();
            x.setTimes(pair[0], pair[1]);
            checkTimes(x, pair[0], pair[1]);
        }
        GossipGates x = new GossipGates();
        checks.argument("suspicion 0", () -> x.setTimes(0, 1));
        checks.argument("suspicion 51", () -> x.setTimes(51, 60));
        checks.argument("death below suspicion", () -> x.setTimes(5, 4));
        checks.argument("death 101", () -> x.setTimes(5, 101));
        checks.argument("least", () -> x.setTimes(Integer.MIN_VALUE, Integer.MIN_VALUE));
        checks.argument("greatest", () -> x.setTimes(1, Integer.MAX_VALUE));
        checkTimes(x, 3, 6);
    }

    private static void promise20To22News() {
        GossipGates x = Scenes.shutRiver();
        x.rain(3, 420);
        x.tick(10);
        checks.equal("own version", x.version(3, 3), 10);
        checks.equal("own age", x.age(3, 3), 0);
        for (int i = 0; i < 8; i++) {
            checks.equal("believed " + i, x.believed(i, 3), 42);
            checks.equal("as old as its version tells", x.age(i, 3), 10 - x.version(i, 3));
        }
        x.fall(3);
        x.shape(3, 1, 1000);
        x.tick(20);
        checks.equal("an old level", x.believed(0, 3), 42);
        checks.equal("a version of the time before", x.version(0, 3), 10);
        checks.equal("20 ticks old", x.age(0, 3), 20);
        checks.equal("also with the one that is down", x.age(3, 3), 20);
        x.comeUp(3);
        checks.equal("still old", x.age(3, 3), 20);
        x.tick(1);
        checks.equal("measured again", x.believed(3, 3), 420);
        checks.equal("the next version", x.version(3, 3), 11);
        GossipGates empty = new GossipGates();
        empty.tick(1);
        checks.equal("an empty reach is news", empty.believed(0, 0), 0);
    }

    private static void promise23Beat() {
        GossipGates x = new GossipGates();
        x.tick(9);
        checks.equal("own beat", x.beat(4, 4), 9);
        x.fall(4);
        x.tick(20);
        for (int i = 0; i < 8; i++) {
            checks.equal("told by the others " + i, x.beat(i, 4) <= 9 ? 1 : 0, 1);
            checks.isTrue("heard " + i, x.beat(i, 4) > 0);
        }
        checks.equal("down: no beat more", x.beat(4, 4), 9);
    }

    private static void promise24Status() {
        GossipGates x = Scenes.onlyUp(2);
        x.tick(7);
        for (int i = 0; i < 8; i++) {
            checks.equal("held dead, but itself", x.status(2, i),
                i == 2 ? GossipGates.ALIVE : GossipGates.DEAD);
            checks.equal("the ones that are down look at none", x.status(i, 2), GossipGates.ALIVE);
        }
        // In the tick 8, of all others: (40 + 6) mod 7 is 4, and that is the member 5.
        x.comeUp(5);
        checks.equal("partner", x.partner(2), 5);
        x.tick(1);
        checks.equal("told, so alive", x.status(2, 5), GossipGates.ALIVE);
        checks.equal("the others are dead still", x.status(2, 4), GossipGates.DEAD);
    }

    private static void promise25Partner() {
        GossipGates x = Scenes.onlyUp(0);
        x.setTimes(1, 1);
        for (int i = 1; i < 8; i++) {
            checks.equal("down " + i, x.partner(i), GossipGates.NONE);
        }
        checks.equal("for the tick 1", x.partner(0), 6);
        x.tick(1);
        checks.equal("for the tick 2", x.partner(0), 4);
        x.tick(1);
        checks.equal("none that it does not hold dead", x.partner(0), GossipGates.NONE);
        x.tick(1);
        checks.equal("for the tick 4, of all others", x.partner(0), 7);
        x.tick(1);
        checks.equal("none again", x.partner(0), GossipGates.NONE);
        x.tick(3);
        checks.equal("for the tick 8, (40 + 0) mod 7", x.partner(0), 6);
        GossipGates some = new GossipGates();
        some.setGroup(1, 1);
        some.setGroup(2, 1);
        some.setGroup(6, 1);
        some.tick(20);
        for (int i = 0; i < 8; i++) {
            checks.equal("one of those that it does not hold dead " + i,
                some.partner(i), partnerByStatus(some, i));
        }
        some.tick(3);
        checks.equal("of all others, (120 + 3) mod 7 is 4", some.partner(1), 5);
        // 1 calls 0 in the tick 5 and 0 calls 1 in the tick 7; the others are never heard of.
        GossipGates two = Scenes.onlyUp(0);
        two.comeUp(1);
        two.tick(8);
        checks.equal("the only one that it does not hold dead", two.partner(0), 1);
        checks.equal("and the other way", two.partner(1), 0);
    }

    private static int partnerByStatus(GossipGates x, int member) {
        int[] others = new int[8];
        int count = 0;
        for (int other = 0; other < 8; other++) {
            if (other != member && x.status(member, other) != GossipGates.DEAD) {
                others[count++] = other;
            }
        }
        return others[(5 * (x.time() + 1) + 3 * member) % count];
    }

    private static void promise26Freshest() {
        GossipGates x = new GossipGates();
        x.tick(1);
        int[] lowest = {0, 1, 1, 0, 3, 2, 0, 5};
        for (int i = 0; i < 8; i++) {
            checks.equal("lowest with the news of " + i, x.freshest(i), lowest[i]);
        }
        x.fall(0);
        checks.equal("up or down", x.freshest(0), 0);
        GossipGates lonely = Scenes.onlyUp(4);
        lonely.tick(5);
        checks.equal("its own", lonely.freshest(4), 4);
        checks.equal("no news", lonely.freshest(3), GossipGates.NONE);
        GossipGates parted = new GossipGates();
        parted.tick(10);
        parted.setGroup(7, 3);
        parted.tick(10);
        checks.equal("greater versions win over lower numbers", parted.freshest(7), 7);
        for (int reach = 0; reach < 8; reach++) {
            checks.equal("by the versions " + reach, parted.freshest(reach),
                freshestByVersion(parted, reach));
        }
    }

    private static int freshestByVersion(GossipGates x, int reach) {
        int best = 0;
        for (int member = 1; member < 8; member++) {
            best = x.version(member, reach) > x.version(best, reach) ? member : best;
        }
        return best;
    }

    private static void promise27Agree() {
        GossipGates x = Scenes.shutRiver();
        checks.equal("without news none agrees", x.agree(0), 0);
        x.tick(1);
        for (int i = 0; i < 8; i++) {
            int due = 0;
            for (String heard : HEARD) {
                due += heard.indexOf('0' + i) >= 0 ? 1 : 0;
            }
            checks.equal("agree " + i, x.agree(i), due);
        }
        GossipGates wet = Scenes.shutRiver();
        for (int i = 0; i < 8; i++) {
            wet.rain(i, 10 * i + 10);
        }
        wet.tick(1);
        int[] hearers = {5, 5, 5, 3, 2, 4, 5, 2};
        for (int i = 0; i < 8; i++) {
            checks.equal("agree, levels unlike, " + i, wet.agree(i), hearers[i]);
        }
        x.fall(3);
        checks.equal("up alone", x.agree(0), 4);
        x.tick(20);
        checks.equal("all that are up", x.agree(0), 7);
        checks.equal("of the reach of the one that is down", x.agree(3), 7);
        x.rain(3, 10);
        x.tick(1);
        checks.equal("the level is another one", x.agree(3), 0);
        x.shape(3, 11, 100);
        checks.equal("by the level that it has now", x.agree(3), 7);
    }

    private static void promise28Unnoticed() {
        GossipGates x = new GossipGates();
        x.fall(1);
        x.fall(6);
        checks.equal("both", x.unnoticed(), 2);
        x.tick(3);
        checks.equal("both still", x.unnoticed(), 2);
        x.tick(1);
        checks.equal("suspected is noticed", x.unnoticed(), 0);
        x.fall(0);
        checks.equal("another one", x.unnoticed(), 1);
        for (int i = 0; i < 8; i++) {
            if (x.partner(i) != GossipGates.NONE) {
                x.fall(i);
            }
        }
        checks.equal("none is up that could hold them alive", x.unnoticed(), 0);
        GossipGates lone = Scenes.onlyUp(3);
        checks.equal("seven", lone.unnoticed(), 7);
    }

    private static void promise29Mistaken() {
        GossipGates x = new GossipGates();
        x.setGroup(0, 1);
        x.tick(6);
        checks.equal("suspected is not dead", x.mistaken(), 0);
        x.tick(1);
        checks.equal("both ways", x.mistaken(), 14);
        x.fall(1);
        checks.equal("both up", x.mistaken(), 12);
        x.fall(0);
        checks.equal("none is mistaken", x.mistaken(), 0);
        x.comeUp(0);
        checks.equal("as before", x.mistaken(), 12);
        x.tick(1);
        checks.equal("one looked anew", x.mistaken(), 6);
    }

    private static void promise30Vain() {
        GossipGates x = Scenes.onlyUp(0);
        x.setTimes(1, 1);
        int[] due = {1, 2, 2, 3, 3, 3, 3, 4, 4};
        for (int i = 0; i < due.length; i++) {
            x.tick(1);
            checks.equal("in vain after the tick " + (i + 1), x.vain(), due[i]);
        }
        GossipGates parted = new GossipGates();
        parted.setGroup(0, 1);
        parted.tick(1);
        checks.equal("0 called 6, and 3 called 0", parted.vain(), 2);
        GossipGates whole = new GossipGates();
        whole.tick(100);
        checks.equal("none in vain", whole.vain(), 0);
    }

    private static void wrongNumbers() {
        GossipGates x = new GossipGates();
        x.tick(3);
        for (int wrong : Checks.NOT_A_NUMBER) {
            checks.argument("believed member", () -> x.believed(wrong, 0));
            checks.argument("believed reach", () -> x.believed(0, wrong));
            checks.argument("version member", () -> x.version(wrong, 0));
            checks.argument("version reach", () -> x.version(0, wrong));
            checks.argument("age member", () -> x.age(wrong, 0));
            checks.argument("age reach", () -> x.age(0, wrong));
            checks.argument("beat member", () -> x.beat(wrong, 0));
            checks.argument("beat other", () -> x.beat(0, wrong));
            checks.argument("status member", () -> x.status(wrong, 0));
            checks.argument("status other", () -> x.status(0, wrong));
            checks.argument("partner", () -> x.partner(wrong));
            checks.argument("freshest", () -> x.freshest(wrong));
            checks.argument("agree", () -> x.agree(wrong));
        }
    }
}
