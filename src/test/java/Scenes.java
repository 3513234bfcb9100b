import java.util.Arrays;

/** Objects that several tests begin with. */
final class Scenes {
    private static final int MOST_RAIN = 10000;

    private Scenes() {
    }

    /** A river whose gates are all shut and in hands, so that water moves by spilling alone. */
    static GossipGates shutRiver() {
        GossipGates x = new GossipGates();
        for (int gate = 0; gate < 8; gate++) {
            x.byHand(gate, 0);
        }
        return x;
    }

    /** A new river whose members are all down, but for these. */
    static GossipGates onlyUp(int... members) {
        GossipGates x = new GossipGates();
        for (int member = 0; member < 8; member++) {
            int one = member;
            if (Arrays.stream(members).noneMatch(up -> up == one)) {
                x.fall(member);
            }
        }
        return x;
    }

    /** Tells so much rain, in calls of at most 10000 each. */
    static void pour(GossipGates x, int reach, int amount) {
        for (int left = amount; left > 0; left -= MOST_RAIN) {
            x.rain(reach, Math.min(left, MOST_RAIN));
        }
    }

    /**
     * A shut river of the widest and deepest reaches with these levels, and half an area of water
     * above each, so that what gates of the gauge 1 let through in some ticks moves no level. In
     * its 20 ticks all members have told one another; no news is older than 2 ticks.
     */
    static GossipGates calm(int... levels) {
        GossipGates x = shutRiver();
        for (int reach = 0; reach < 8; reach++) {
            x.shape(reach, 100, 1000);
            x.setGauge(reach, 1);
            pour(x, reach, Math.min(levels[reach] * 100 + 50, 100000));
        }
        x.tick(20);
        return x;
    }

    /** Eight times the same level. */
    static int[] all(int level) {
        int[] levels = new int[8];
        Arrays.fill(levels, level);
        return levels;
    }

    /** Eight levels, all the same but for one. */
    static int[] allBut(int level, int reach, int other) {
        int[] levels = all(level);
        levels[reach] = other;
        return levels;
    }

    /** Gives a gate to its member with an opening, and lets it rule it once. */
    static int ruledOnce(GossipGates x, int gate, int opening) {
        x.byHand(gate, opening);
        x.byHand(gate, GossipGates.NONE);
        x.tick(1);
        return x.opening(gate);
    }

    /**
     * A calm river in which, after the tick to come, the news that a member has of the next reach
     * is so many ticks old (3 or more): it has been in a group of its own since it got them.
     */
    static GossipGates aged(int gate, int age, int... levels) {
        GossipGates x = calm(levels);
        x.setGroup(gate, 1);
        for (int left = age - 1 - x.age(gate, gate + 1); left > 0; left -= 100) {
            x.tick(Math.min(left, 100));
        }
        return x;
    }
}
