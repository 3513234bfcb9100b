import java.util.Arrays;

/** A river of reaches with flood gates, each ruled by a member of a gossip net. */
public final class GossipGates {
    public static final int NONE = -1;
    public static final int ALIVE = 0, SUSPECTED = 1, DEAD = 2;

    /** Reaches, gates and members bear the same numbers, so one count serves all three. */
    private static final int COUNT = 8;
    private static final int MOST_AREA = 100;
    private static final int MOST_LEVEL = 1000;
    private static final int MOST_GAUGE = 50;
    private static final int MOST_SOURCE = 1000;
    private static final int MOST_RAIN = 10000;
    private static final int WIDEST = 10;
    private static final int MOST_RULE_AGE = 100;
    private static final int MOST_GROUP = 3;
    private static final int MOST_SUSPICION = 50;
    private static final int MOST_DEATH = 100;
    private static final int MOST_TICKS = 100;
    private static final int LAST_TIME = 5000;

    private final River river = new River();
    private final Gates gates = new Gates();
    private final Net net = new Net();
    private int now = 0;

    public GossipGates() {
    }

    // ---- river

    public void shape(int reach, int area, int depth) throws IllegalArgumentException {
        requireNumber(reach);
        requireWithin(area, 1, MOST_AREA);
        requireWithin(depth, 1, MOST_LEVEL);
        river.areas[reach] = area;
        river.depths[reach] = depth;
    }

    public int setGauge(int gate, int gauge) throws IllegalArgumentException {
        requireNumber(gate);
        requireWithin(gauge, 1, MOST_GAUGE);
        int before = gates.gauges[gate];
        gates.gauges[gate] = gauge;
        return before;
    }

    public int setSource(int amount) throws IllegalArgumentException {
        requireWithin(amount, 0, MOST_SOURCE);
        int before = river.source;
        river.source = amount;
        return before;
    }

    public int rain(int reach, int amount) throws IllegalArgumentException {
        requireNumber(reach);
        requireWithin(amount, 1, MOST_RAIN);
        river.clouds[reach] += amount;
        return river.clouds[reach];
    }

    public int volume(int reach) throws IllegalArgumentException {
        requireNumber(reach);
        return river.volumes[reach];
    }

    public int volumeByBalance(int reach) throws IllegalArgumentException {
        requireNumber(reach);
        return river.balanceOf(reach);
    }

    public int level(int reach) throws IllegalArgumentException {
        requireNumber(reach);
        return river.levelOf(reach);
    }

    public int flowed(int gate) throws IllegalArgumentException {
        requireNumber(gate);
        return river.through[gate];
    }

    public int spilled(int reach) throws IllegalArgumentException {
        requireNumber(reach);
        return river.over[reach];
    }

    // ---- gates

    public void setRule(int gate, int low, int high, int bound, int age)
            throws IllegalArgumentException {
        requireNumber(gate);
        requireWithin(low, 0, MOST_LEVEL);
        requireWithin(high, low, MOST_LEVEL);
        requireWithin(bound, 0, MOST_LEVEL);
        requireWithin(age, 0, MOST_RULE_AGE);
        gates.lows[gate] = low;
        gates.highs[gate] = high;
        gates.bounds[gate] = bound;
        gates.ages[gate] = age;
    }

    public int byHand(int gate, int opening)
            throws IllegalArgumentException, IllegalStateException {
        requireNumber(gate);
        requireWithin(opening, NONE, WIDEST);
        if (opening == NONE && !gates.inHand[gate]) {
            throw new IllegalStateException("no hand has the gate");
        }
        int before = gates.openings[gate];
        gates.inHand[gate] = opening != NONE;
        if (opening != NONE) {
            gates.openings[gate] = opening;
        }
        return before;
    }

    public int opening(int gate) throws IllegalArgumentException {
        requireNumber(gate);
        return gates.openings[gate];
    }

    public int safety(int gate) throws IllegalArgumentException {
        requireNumber(gate);
        return gates.safeties[gate];
    }

    // ---- members

    public void fall(int member) throws IllegalArgumentException, IllegalStateException {
        requireNumber(member);
        if (net.isDown[member]) {
            throw new IllegalStateException("the member is down");
        }
        net.isDown[member] = true;
    }

    public void comeUp(int member) throws IllegalArgumentException, IllegalStateException {
        requireNumber(member);
        if (!net.isDown[member]) {
            throw new IllegalStateException("the member is up");
        }
        net.isDown[member] = false;
        Arrays.fill(net.growths[member], now);
    }

    public int setGroup(int member, int group) throws IllegalArgumentException {
        requireNumber(member);
        requireWithin(group, 0, MOST_GROUP);
        int before = net.groups[member];
        net.groups[member] = group;
        return before;
    }

    public boolean setStuck(int member, boolean isStuck) throws IllegalArgumentException {
        requireNumber(member);
        boolean before = net.isStuck[member];
        net.isStuck[member] = isStuck;
        return before;
    }

    public void setTimes(int suspicion, int death) throws IllegalArgumentException {
        requireWithin(suspicion, 1, MOST_SUSPICION);
        requireWithin(death, suspicion, MOST_DEATH);
        net.suspicionTime = suspicion;
        net.deathTime = death;
    }

    public int believed(int member, int reach) throws IllegalArgumentException {
        requireNumber(member);
        requireNumber(reach);
        return net.hasNews(member, reach) ? net.levels[member][reach] : NONE;
    }

    public int version(int member, int reach) throws IllegalArgumentException {
        requireNumber(member);
        requireNumber(reach);
        return net.versions[member][reach];
    }

    public int age(int member, int reach) throws IllegalArgumentException {
        requireNumber(member);
        requireNumber(reach);
        return net.hasNews(member, reach) ? now - net.measured[member][reach] : NONE;
    }

    public int beat(int member, int other) throws IllegalArgumentException {
        requireNumber(member);
        requireNumber(other);
        return net.beats[member][other];
    }

    public int status(int member, int other) throws IllegalArgumentException {
        requireNumber(member);
        requireNumber(other);
        return net.statuses[member][other];
    }

    public int partner(int member) throws IllegalArgumentException {
        requireNumber(member);
        return net.isDown[member] ? NONE : net.calledBy(member, now + 1);
    }

    public int freshest(int reach) throws IllegalArgumentException {
        requireNumber(reach);
        return net.freshestOf(reach);
    }

    public int agree(int reach) throws IllegalArgumentException {
        requireNumber(reach);
        return net.believersOf(reach, river.levelOf(reach));
    }

    public int unnoticed() {
        return net.countUnnoticed();
    }

    public int mistaken() {
        return net.countMistaken();
    }

    public int vain() {
        return net.vainCalls;
    }

    // ---- ticks

    public int tick(int ticks) throws IllegalArgumentException, IllegalStateException {
        requireWithin(ticks, 1, MOST_TICKS);
        if (now + ticks > LAST_TIME) {
            throw new IllegalStateException("the time would be above 5000");
        }
        int spilt = 0;
        for (int i = 0; i < ticks; i++) {
            spilt += passOneTick();
        }
        return spilt;
    }

    public int time() {
        return now;
    }

    /** The order of the steps is the document's; returns how much spilled. */
    private int passOneTick() {
        now++;
        river.takeIn();
        river.letThrough(gates);
        int spilt = river.spillOver();
        net.measureAll(river, now);
        net.callAll(now);
        net.lookAll(now);
        ruleGates();
        return spilt;
    }

    private void ruleGates() {
        for (int gate = 0; gate < COUNT; gate++) {
            if (!net.isDown[gate] && !gates.inHand[gate]) {
                ruleGate(gate);
            }
        }
    }

    private void ruleGate(int gate) {
        int next = gate + 1;
        boolean hasNext = next < COUNT;
        if (hasNext && net.isOld(gate, next, now, gates.ages[gate])) {
            gates.openForSafety(gate);
            return;
        }
        boolean hasRoom = !hasNext || net.levels[gate][next] < gates.bounds[gate];
        gates.follow(gate, net.levels[gate][gate], hasRoom);
    }

    private static void requireNumber(int number) {
        requireWithin(number, 0, COUNT - 1);
    }

    private static void requireWithin(int value, int least, int most) {
        if (value < least || value > most) {
            throw new IllegalArgumentException("an argument is out of range");
        }
    }

    /** The water, and all that has gone into and out of each reach. */
    private static final class River {
        final int[] areas = new int[COUNT];
        final int[] depths = new int[COUNT];
        final int[] volumes = new int[COUNT];
        /** What has been told to rain since the last tick. */
        final int[] clouds = new int[COUNT];
        /** All that came from outside: rain, and the source in the reach 0. */
        final int[] fallen = new int[COUNT];
        final int[] through = new int[COUNT];
        final int[] over = new int[COUNT];
        int source = 0;

        River() {
            Arrays.fill(areas, 10);
            Arrays.fill(depths, 100);
        }

        int levelOf(int reach) {
            int area = areas[reach];
            return area < 1 ? 0 : volumes[reach] / area;
        }

        /** Reckoned without the volumes, so that each of the two can prove the other. */
        int balanceOf(int reach) {
            int gained = fallen[reach];
            if (reach > 0) {
                gained += through[reach - 1] + over[reach - 1];
            }
            return gained - through[reach] - over[reach];
        }

        void takeIn() {
            receive(0, source);
            for (int reach = 0; reach < COUNT; reach++) {
                receive(reach, clouds[reach]);
                clouds[reach] = 0;
            }
        }

        private void receive(int reach, int amount) {
            volumes[reach] += amount;
            fallen[reach] += amount;
        }

        /** From the last reach upwards, so that each gate meets the volume ahead of all flows. */
        void letThrough(Gates gates) {
            for (int reach = COUNT - 1; reach >= 0; reach--) {
                int amount = Math.min(gates.mostThrough(reach), volumes[reach]);
                through[reach] += amount;
                moveOn(reach, amount);
            }
        }

        /** By rising reaches, so that what spills into a reach can spill on in the same tick. */
        int spillOver() {
            int sum = 0;
            for (int reach = 0; reach < COUNT; reach++) {
                int amount = Math.max(volumes[reach] - areas[reach] * depths[reach], 0);
                over[reach] += amount;
                moveOn(reach, amount);
                sum += amount;
            }
            return sum;
        }

        private void moveOn(int reach, int amount) {
            volumes[reach] -= amount;
            int next = reach + 1;
            if (next < COUNT) {
                volumes[next] += amount;
            }
        }
    }

    /** The gates with their rules. */
    private static final class Gates {
        final int[] gauges = new int[COUNT];
        final int[] openings = new int[COUNT];
        final int[] lows = new int[COUNT];
        final int[] highs = new int[COUNT];
        final int[] bounds = new int[COUNT];
        final int[] ages = new int[COUNT];
        final int[] safeties = new int[COUNT];
        final boolean[] inHand = new boolean[COUNT];

        Gates() {
            Arrays.fill(gauges, 5);
            Arrays.fill(lows, 20);
            Arrays.fill(highs, 40);
            Arrays.fill(bounds, 80);
            Arrays.fill(ages, 5);
        }

        int mostThrough(int gate) {
            return openings[gate] * gauges[gate];
        }

        /** Counts also when the gate is as wide as it can be: the document asks so. */
        void openForSafety(int gate) {
            openings[gate] = Math.min(openings[gate] + 2, WIDEST);
            safeties[gate]++;
        }

        void follow(int gate, int ownLevel, boolean hasRoom) {
            if (ownLevel > highs[gate] && hasRoom) {
                openings[gate] = Math.min(openings[gate] + 1, WIDEST);
            } else if (ownLevel < lows[gate]) {
                openings[gate] = Math.max(openings[gate] - 1, 0);
            }
        }
    }

    /** The members: a row of each table is what the member of that number keeps. */
    private static final class Net {
        final boolean[] isDown = new boolean[COUNT];
        final boolean[] isStuck = new boolean[COUNT];
        final int[] groups = new int[COUNT];
        final int[][] versions = new int[COUNT][COUNT];
        final int[][] levels = new int[COUNT][COUNT];
        final int[][] measured = new int[COUNT][COUNT];
        final int[][] beats = new int[COUNT][COUNT];
        /** The tick in which a beat grew last with the member. */
        final int[][] growths = new int[COUNT][COUNT];
        /** ALIVE is 0, so that all are held alive at first, and each by itself always. */
        final int[][] statuses = new int[COUNT][COUNT];
        int suspicionTime = 3;
        int deathTime = 6;
        int vainCalls = 0;

        boolean hasNews(int member, int reach) {
            return versions[member][reach] > 0;
        }

        boolean isOld(int member, int reach, int now, int mostAge) {
            return !hasNews(member, reach) || now - measured[member][reach] > mostAge;
        }

        void measureAll(River river, int now) {
            for (int member = 0; member < COUNT; member++) {
                if (!isDown[member]) {
                    measure(member, river.levelOf(member), now);
                }
            }
        }

        /**
         * No other member has a greater version of the reach, so that the level which the member
         * keeps of it is always what it measured last, and a stuck sensor leaves it.
         */
        private void measure(int member, int levelNow, int now) {
            if (!isStuck[member]) {
                levels[member][member] = levelNow;
            }
            measured[member][member] = now;
            versions[member][member]++;
            beats[member][member]++;
            growths[member][member] = now;
        }

        void callAll(int now) {
            for (int member = 0; member < COUNT; member++) {
                if (!isDown[member]) {
                    call(member, now);
                }
            }
        }

        private void call(int member, int now) {
            int other = calledBy(member, now);
            if (other < 0) {
                return;
            }
            if (isDown[other] || groups[other] != groups[member]) {
                vainCalls++;
            } else {
                tellOneAnother(member, other, now);
            }
        }

        int calledBy(int member, int tickOfCall) {
            boolean isOfAll = tickOfCall % 4 == 0;
            int callable = 0;
            for (int other = 0; other < COUNT; other++) {
                if (isCallable(member, other, isOfAll)) {
                    callable++;
                }
            }
            if (callable < 1) {
                return NONE;
            }
            int place = (5 * tickOfCall + 3 * member) % callable;
            for (int other = 0; other < COUNT; other++) {
                if (isCallable(member, other, isOfAll)) {
                    if (place == 0) {
                        return other;
                    }
                    place--;
                }
            }
            return NONE;
        }

        private boolean isCallable(int member, int other, boolean isOfAll) {
            return other != member && (isOfAll || statuses[member][other] != DEAD);
        }

        private void tellOneAnother(int one, int other, int now) {
            for (int i = 0; i < COUNT; i++) {
                takeNews(one, other, i);
                takeNews(other, one, i);
                takeBeat(one, other, i, now);
                takeBeat(other, one, i, now);
            }
        }

        private void takeNews(int taker, int giver, int reach) {
            if (versions[taker][reach] < versions[giver][reach]) {
                versions[taker][reach] = versions[giver][reach];
                levels[taker][reach] = levels[giver][reach];
                measured[taker][reach] = measured[giver][reach];
            }
        }

        private void takeBeat(int taker, int giver, int about, int now) {
            if (beats[taker][about] < beats[giver][about]) {
                beats[taker][about] = beats[giver][about];
                growths[taker][about] = now;
                statuses[taker][about] = ALIVE;
            }
        }

        void lookAll(int now) {
            for (int member = 0; member < COUNT; member++) {
                if (!isDown[member]) {
                    lookAtOthers(member, now);
                }
            }
        }

        private void lookAtOthers(int member, int now) {
            for (int other = 0; other < COUNT; other++) {
                if (other != member) {
                    statuses[member][other] = statusAfter(now - growths[member][other]);
                }
            }
        }

        private int statusAfter(int silence) {
            if (silence > deathTime) {
                return DEAD;
            }
            return silence > suspicionTime ? SUSPECTED : ALIVE;
        }

        int freshestOf(int reach) {
            int best = NONE;
            int greatest = 0;
            for (int member = 0; member < COUNT; member++) {
                if (versions[member][reach] > greatest) {
                    greatest = versions[member][reach];
                    best = member;
                }
            }
            return best;
        }

        int believersOf(int reach, int levelNow) {
            int count = 0;
            for (int member = 0; member < COUNT; member++) {
                boolean hasOpinion = !isDown[member] && hasNews(member, reach);
                if (hasOpinion && levels[member][reach] == levelNow) {
                    count++;
                }
            }
            return count;
        }

        int countUnnoticed() {
            int count = 0;
            for (int member = 0; member < COUNT; member++) {
                if (isDown[member] && countHolders(member, ALIVE) > 0) {
                    count++;
                }
            }
            return count;
        }

        int countMistaken() {
            int count = 0;
            for (int member = 0; member < COUNT; member++) {
                if (!isDown[member]) {
                    count += countHolders(member, DEAD);
                }
            }
            return count;
        }

        /** How many members that are up hold a member in a status; no member holds itself DEAD. */
        private int countHolders(int about, int held) {
            int count = 0;
            for (int member = 0; member < COUNT; member++) {
                if (!isDown[member] && statuses[member][about] == held) {
                    count++;
                }
            }
            return count;
        }
    }
}
