import java.util.ArrayList;
import java.util.Arrays;
import java.util.List;
import java.util.function.Consumer;

/**
 * "A method throws IllegalArgumentException if an argument is out of range, and
 * IllegalStateException as it documents; if both apply, IllegalArgumentException is thrown. A call
 * that throws changes nothing." Each refused call is made on one of two objects with the same calls
 * behind them; both must answer the same from then on.
 */
public final class RefusedTest {
    private static final int NONE = GossipGates.NONE;
    private static final Checks checks = new Checks();

    /** The methods that can throw, each with the promise of its number. */
    private static final String[] METHODS = {
        "2 shape", "3 setGauge", "4 setSource", "5 rain", "6 volume", "7 volumeByBalance",
        "8 level", "9 flowed", "10 spilled", "11 setRule", "12 byHand", "13 opening", "14 safety",
        "15 fall", "16 comeUp", "17 setGroup", "18 setStuck", "19 setTimes", "20 believed",
        "21 version", "22 age", "23 beat", "24 status", "25 partner", "26 freshest", "27 agree",
        "31 tick",
    };

    private record Story(String name, Consumer<GossipGates> tell) {
    }

    private record Refused(String name, Class<?> due, Consumer<GossipGates> call) {
        boolean isOf(String method, Class<?> thrown) {
            return due == thrown && name.startsWith(method + " ");
        }
    }

    private record Case(Story past, Refused refused) {
    }

    public static void main(String[] args) {
        List<Case> cases = cases();
        for (String method : METHODS) {
            String[] words = method.split(" ");
            testAll(cases, words[0], words[1], IllegalArgumentException.class);
        }
        testAll(cases, "12", "byHand", IllegalStateException.class);
        testAll(cases, "15", "fall", IllegalStateException.class);
        testAll(cases, "16", "comeUp", IllegalStateException.class);
        testAll(cases, "31", "tick", IllegalStateException.class);
        checks.end();
    }

    private static void testAll(List<Case> cases, String promise, String method, Class<?> due) {
        String sentence = "Throws `" + due.getSimpleName() + "` if";
        checks.test("Promise " + promise, sentence, () -> {
            for (Case one : cases) {
                if (one.refused().isOf(method, due)) {
                    checkRefused(one.past(), one.refused());
                }
            }
        });
    }

    private static List<Case> cases() {
        List<Refused> arguments = new ArrayList<>();
        addNumbers(arguments);
        addValues(arguments);
        addTicks(arguments);
        List<Case> cases = new ArrayList<>();
        for (Story past : pasts()) {
            List<Refused> all = new ArrayList<>(arguments);
            addStates(all, past.name().equals("all set"));
            all.forEach(refused -> cases.add(new Case(past, refused)));
        }
        List<Refused> ticks = new ArrayList<>();
        addTicks(ticks);
        addState(ticks, "tick 41", x -> x.tick(41));
        addState(ticks, "tick 100", x -> x.tick(100));
        Story late = new Story("40 ticks ahead of the end", RefusedTest::nearTheEnd);
        ticks.forEach(refused -> cases.add(new Case(late, refused)));
        return cases;
    }

    private static void checkRefused(Story past, Refused refused) {
        for (Story future : futures()) {
            GossipGates one = new GossipGates();
            GossipGates other = new GossipGates();
            past.tell().accept(one);
            past.tell().accept(other);
            String what = refused.name() + ", " + past.name() + ", " + future.name();
            checks.thrown(what, () -> refused.call().accept(one), refused.due());
            future.tell().accept(one);
            future.tell().accept(other);
            String unlike = Questions.unlike(Questions.askAll(one), Questions.askAll(other));
            checks.isTrue(what + ": all is as without it, but " + unlike, unlike.isEmpty());
        }
        checkSettings(past, refused);
    }

    /** What no question asks for, but the setters answer. */
    private static void checkSettings(Story past, Refused refused) {
        GossipGates one = new GossipGates();
        GossipGates other = new GossipGates();
        past.tell().accept(one);
        past.tell().accept(other);
        checks.thrown(refused.name(), () -> refused.call().accept(one), refused.due());
        checks.isTrue(refused.name() + ", " + past.name() + ": the settings stay",
            Arrays.equals(settings(one), settings(other)));
    }

    private static int[] settings(GossipGates x) {
        int[] answers = new int[41];
        for (int i = 0; i < 8; i++) {
            answers[i] = x.setGauge(i, 5);
            answers[8 + i] = x.rain(i, 1);
            answers[16 + i] = x.setGroup(i, 0);
            answers[24 + i] = x.setStuck(i, true) ? 1 : 0;
            answers[32 + i] = isInHand(x, i) ? 1 : 0;
        }
        answers[40] = x.setSource(0);
        return answers;
    }

    private static boolean isInHand(GossipGates x, int gate) {
        try {
            x.byHand(gate, NONE);
            return true;
        } catch (IllegalStateException e) {
            return false;
        }
    }

    /** What a call left behind shows at once, in the next tick, or when news and beats are old. */
    private static List<Story> futures() {
        return List.of(
            new Story("at once", x -> { }),
            new Story("a tick later", x -> x.tick(1)),
            new Story("8 ticks later", x -> x.tick(8)),
            new Story("40 ticks later", x -> x.tick(40)));
    }

    private static List<Story> pasts() {
        return List.of(
            new Story("a new object", x -> { }),
            new Story("low water", x -> ruledRiver(x, 10)),
            new Story("middle water", x -> ruledRiver(x, 30)),
            new Story("high water", x -> ruledRiver(x, 50)),
            new Story("highest water", x -> ruledRiver(x, 90)),
            new Story("parted", RefusedTest::parted),
            new Story("all set", RefusedTest::allSet));
    }

    private static void nearTheEnd(GossipGates x) {
        x.setSource(100);
        for (int i = 0; i < 49; i++) {
            x.tick(100);
        }
        x.tick(60);
    }

    /** All gates are ruled by their members, by the levels that hold with these gauges for long. */
    private static void ruledRiver(GossipGates x, int level) {
        for (int i = 0; i < 8; i++) {
            x.shape(i, 100, 1000);
            x.setGauge(i, 1);
            x.byHand(i, 0);
            x.rain(i, 100 * level + 50);
        }
        x.tick(20);
        for (int i = 0; i < 8; i++) {
            x.byHand(i, 5);
            x.byHand(i, NONE);
        }
    }

    private static void parted(GossipGates x) {
        ruledRiver(x, 30);
        for (int i = 0; i < 8; i++) {
            x.setGroup(i, i % 4);
        }
        x.tick(3);
    }

    /** Nothing is as at first. */
    private static void allSet(GossipGates x) {
        x.setSource(77);
        x.setTimes(5, 9);
        for (int i = 0; i < 8; i++) {
            x.shape(i, 20 + i, 50 + i);
            x.setGauge(i, 10 + i);
            x.setRule(i, 5 + i, 30 + i, 60 + i, 3 + i);
            x.rain(i, 700 + i);
            x.setStuck(i, i % 3 == 0);
        }
        x.tick(9);
        x.byHand(2, 3);
        x.byHand(7, 10);
        x.fall(1);
        x.fall(6);
        x.tick(6);
        x.setGroup(3, 1);
        x.setGroup(7, 3);
        x.rain(0, 300);
        x.rain(7, 300);
    }

    private static void add(List<Refused> all, String name, Consumer<GossipGates> call) {
        all.add(new Refused(name, IllegalArgumentException.class, call));
    }

    private static void addNumbers(List<Refused> all) {
        for (int wrong : Checks.outside(0, 7)) {
            String of = " of " + wrong;
            add(all, "shape" + of, x -> x.shape(wrong, 1, 1));
            add(all, "setGauge" + of, x -> x.setGauge(wrong, 50));
            add(all, "rain" + of, x -> x.rain(wrong, 10000));
            add(all, "volume" + of, x -> x.volume(wrong));
            add(all, "volumeByBalance" + of, x -> x.volumeByBalance(wrong));
            add(all, "level" + of, x -> x.level(wrong));
            add(all, "flowed" + of, x -> x.flowed(wrong));
            add(all, "spilled" + of, x -> x.spilled(wrong));
            add(all, "setRule" + of, x -> x.setRule(wrong, 1000, 1000, 0, 0));
            add(all, "byHand" + of, x -> x.byHand(wrong, 10));
            add(all, "byHand NONE" + of, x -> x.byHand(wrong, NONE));
            add(all, "opening" + of, x -> x.opening(wrong));
            add(all, "safety" + of, x -> x.safety(wrong));
            add(all, "fall" + of, x -> x.fall(wrong));
            add(all, "comeUp" + of, x -> x.comeUp(wrong));
            add(all, "setGroup" + of, x -> x.setGroup(wrong, 2));
            add(all, "setStuck true" + of, x -> x.setStuck(wrong, true));
            add(all, "setStuck false" + of, x -> x.setStuck(wrong, false));
            add(all, "partner" + of, x -> x.partner(wrong));
            add(all, "freshest" + of, x -> x.freshest(wrong));
            add(all, "agree" + of, x -> x.agree(wrong));
            for (int i = 0; i < 8; i += 7) {
                addOfTwo(all, wrong, i);
                addOfTwo(all, i, wrong);
            }
            addOfTwo(all, wrong, wrong);
        }
    }

    private static void addOfTwo(List<Refused> all, int one, int other) {
        String of = " of " + one + " and " + other;
        add(all, "believed" + of, x -> x.believed(one, other));
        add(all, "version" + of, x -> x.version(one, other));
        add(all, "age" + of, x -> x.age(one, other));
        add(all, "beat" + of, x -> x.beat(one, other));
        add(all, "status" + of, x -> x.status(one, other));
    }

    /** The other arguments are such as would show, were they taken. */
    private static void addValues(List<Refused> all) {
        for (int i = 0; i < 8; i++) {
            int gate = i;
            String of = " of " + gate;
            for (int wrong : Checks.outside(1, 100)) {
                add(all, "shape area " + wrong + of, x -> x.shape(gate, wrong, 1));
                add(all, "shape area and depth " + wrong + of, x -> x.shape(gate, wrong, wrong));
            }
            for (int wrong : Checks.outside(1, 1000)) {
                add(all, "shape depth " + wrong + of, x -> x.shape(gate, 1, wrong));
            }
            for (int wrong : Checks.outside(1, 50)) {
                add(all, "setGauge " + wrong + of, x -> x.setGauge(gate, wrong));
            }
            for (int wrong : Checks.outside(1, 10000)) {
                add(all, "rain " + wrong + of, x -> x.rain(gate, wrong));
            }
            for (int wrong : Checks.outside(NONE, 10)) {
                add(all, "byHand " + wrong + of, x -> x.byHand(gate, wrong));
            }
            for (int wrong : Checks.outside(0, 3)) {
                add(all, "setGroup " + wrong + of, x -> x.setGroup(gate, wrong));
            }
            addRules(all, gate);
        }
        for (int wrong : Checks.outside(0, 1000)) {
            add(all, "setSource " + wrong, x -> x.setSource(wrong));
        }
        for (int wrong : Checks.outside(1, 50)) {
            add(all, "setTimes suspicion " + wrong, x -> x.setTimes(wrong, 100));
            add(all, "setTimes both " + wrong, x -> x.setTimes(wrong, wrong));
        }
        for (int suspicion = 1; suspicion <= 50; suspicion += 49) {
            int one = suspicion;
            for (int wrong : Checks.outside(suspicion, 100)) {
                add(all, "setTimes " + one + ", death " + wrong, x -> x.setTimes(one, wrong));
            }
        }
    }

    private static void addTicks(List<Refused> all) {
        for (int wrong : Checks.outside(1, 100)) {
            add(all, "tick " + wrong, x -> x.tick(wrong));
        }
    }

    private static void addRules(List<Refused> all, int gate) {
        String of = " of " + gate;
        for (int wrong : Checks.outside(0, 1000)) {
            add(all, "setRule low " + wrong + of, x -> x.setRule(gate, wrong, 1000, 0, 0));
            add(all, "setRule low, high " + wrong + of, x -> x.setRule(gate, wrong, wrong, 0, 0));
            add(all, "setRule bound " + wrong + of, x -> x.setRule(gate, 1000, 1000, wrong, 100));
            add(all, "setRule 0, bound " + wrong + of, x -> x.setRule(gate, 0, 0, wrong, 0));
        }
        for (int low = 0; low <= 1000; low += 500) {
            int one = low;
            for (int wrong : Checks.outside(low, 1000)) {
                String what = "setRule " + low + ", high " + wrong + of;
                add(all, what, x -> x.setRule(gate, one, wrong, 0, 0));
            }
        }
        for (int wrong : Checks.outside(0, 100)) {
            add(all, "setRule age " + wrong + of, x -> x.setRule(gate, 1000, 1000, 0, wrong));
            add(all, "setRule 0, age " + wrong + of, x -> x.setRule(gate, 0, 0, 1000, wrong));
        }
    }

    /** When all is set, the members 1 and 6 are down, and hands have the gates 2 and 7. */
    private static void addStates(List<Refused> all, boolean isAllSet) {
        for (int i = 0; i < 8; i++) {
            int one = i;
            if (isAllSet && (i == 1 || i == 6)) {
                addState(all, "fall " + i, x -> x.fall(one));
            } else {
                addState(all, "comeUp " + i, x -> x.comeUp(one));
            }
            if (!isAllSet || i != 2 && i != 7) {
                addState(all, "byHand NONE " + i, x -> x.byHand(one, NONE));
            }
        }
    }

    private static void addState(List<Refused> all, String name, Consumer<GossipGates> call) {
        all.add(new Refused(name, IllegalStateException.class, call));
    }
}
