import java.util.ArrayList;
import java.util.Arrays;
import java.util.List;
import java.util.function.ToIntFunction;

/** All that can be asked of an object, and how the model answers it. */
final class Questions {
    record Question(String name, ToIntFunction<GossipGates> ask, ToIntFunction<Model> due) {
    }

    static final List<Question> ALL = new ArrayList<>();

    static {
        add("time()", x -> x.time(), m -> m.time);
        add("vain()", x -> x.vain(), m -> m.vain);
        add("unnoticed()", x -> x.unnoticed(), m -> m.unnoticed());
        add("mistaken()", x -> x.mistaken(), m -> m.mistaken());
        for (int number = 0; number < 8; number++) {
            addOfOne(number, "(" + number + ")");
            for (int other = 0; other < 8; other++) {
                addOfTwo(number, other, "(" + number + ", " + other + ")");
            }
        }
    }

    private Questions() {
    }

    private static void addOfOne(int i, String of) {
        add("volume" + of, x -> x.volume(i), m -> m.reaches[i].volume);
        add("volumeByBalance" + of, x -> x.volumeByBalance(i), m -> m.balance(i));
        add("level" + of, x -> x.level(i), m -> m.reaches[i].level());
        add("flowed" + of, x -> x.flowed(i), m -> m.gates[i].flowed);
        add("spilled" + of, x -> x.spilled(i), m -> m.reaches[i].spilled);
        add("opening" + of, x -> x.opening(i), m -> m.gates[i].opening);
        add("safety" + of, x -> x.safety(i), m -> m.gates[i].safety);
        add("partner" + of, x -> x.partner(i),
            m -> m.members[i].isUp ? m.partner(i, m.time + 1) : -1);
        add("freshest" + of, x -> x.freshest(i), m -> m.freshest(i));
        add("agree" + of, x -> x.agree(i), m -> m.agree(i));
    }

    private static void addOfTwo(int i, int j, String of) {
        add("believed" + of, x -> x.believed(i, j), m -> m.believed(i, j));
        add("version" + of, x -> x.version(i, j), m -> m.version(i, j));
        add("age" + of, x -> x.age(i, j), m -> m.age(i, j));
        add("beat" + of, x -> x.beat(i, j), m -> m.members[i].beats[j].number);
        add("status" + of, x -> x.status(i, j), m -> m.status(i, j));
    }

    private static void add(String name, ToIntFunction<GossipGates> ask, ToIntFunction<Model> due) {
        ALL.add(new Question(name, ask, due));
    }

    /** The answers to all questions, which takes as many calls as there are questions. */
    static int[] askAll(GossipGates x) {
        return ALL.stream().mapToInt(question -> question.ask().applyAsInt(x)).toArray();
    }

    /** Says where two rows of answers are unlike; empty if nowhere. */
    static String unlike(int[] one, int[] other) {
        int place = Arrays.mismatch(one, other);
        return place < 0 ? "" : ALL.get(place).name() + ": " + one[place] + " and " + other[place];
    }
}
