import java.util.Random;

/**
 * Mixed runs of calls, right and wrong ones, held against the model; a wrong call is not made on
 * the model, so that whatever it changed would show. The seeds are fixed.
 */
public final class ModelTest {
    private static final int RUNS = 4000;
    /** The document tells nothing of an object after so many calls. */
    private static final int MOST_CALLS = 512;
    private static final int MOST_CALLS_OF_STEP = 3;

    private final Checks checks;
    private final Random dice;
    private final GossipGates object = new GossipGates();
    private final Model model = new Model();
    private final String run;
    /** In every eighth run time passes fast, up to the end that the document sets. */
    private final boolean isFast;
    private int calls = 0;

    private ModelTest(Checks checks, int seed) {
        this.checks = checks;
        this.dice = new Random(seed);
        this.run = "run " + seed + ": ";
        this.isFast = seed % 8 == 0;
    }

    public static void main(String[] args) {
        Checks checks = new Checks();
        for (int seed = 1; seed <= RUNS; seed++) {
            new ModelTest(checks, seed).play(seed % 3 == 0);
        }
        checks.end();
    }

    private void play(boolean isLong) {
        if (isLong) {
            playLong();
        } else {
            playShort();
        }
        checks.isTrue(run + "no more calls than are promised", calls <= MOST_CALLS);
    }

    /** Up to the last call that is promised, with a question now and then. */
    private void playLong() {
        while (calls + MOST_CALLS_OF_STEP < MOST_CALLS) {
            step();
            compare(Questions.ALL.get(dice.nextInt(Questions.ALL.size())));
        }
    }

    /** Some steps, and then all that can be asked. */
    private void playShort() {
        int last = in(1, MOST_CALLS - Questions.ALL.size() - MOST_CALLS_OF_STEP);
        while (calls < last) {
            step();
        }
        for (Questions.Question question : Questions.ALL) {
            compare(question);
        }
    }

    private void step() {
        callOne();
        if (dice.nextInt(3) == 0) {
            wrongCall();
        }
    }

    private void compare(Questions.Question question) {
        checks.equal(run + question.name(), question.ask().applyAsInt(x()),
            question.due().applyAsInt(model));
    }

    private GossipGates x() {
        calls++;
        return object;
    }

    private int in(int least, int most) {
        return least + dice.nextInt(most - least + 1);
    }

    private int outside(int least, int most) {
        int[] choice = {least - 1, most + 1, least - in(1, 1000), most + in(1, 1000),
            Integer.MIN_VALUE, Integer.MAX_VALUE};
        return choice[dice.nextInt(choice.length)];
    }

    private void callOne() {
        int i = in(0, 7);
        switch (in(0, isFast ? 60 : 15)) {
            case 0 -> shape(i);
            case 1 -> setGauge(i);
            case 2 -> setSource();
            case 3, 4 -> rain(i);
            case 5 -> setRule(i);
            case 6 -> byHand(i);
            case 7, 8 -> fallOrComeUp(i);
            case 9 -> setGroup(i);
            case 10 -> setStuck(i);
            case 11 -> setTimes();
            default -> tick(isFast ? in(90, 100) : in(0, 9) == 0 ? in(1, 100) : in(1, 4));
        }
    }

    private void shape(int i) {
        Model.Reach reach = model.reaches[i];
        reach.area = in(1, in(1, 100));
        reach.depth = in(1, in(1, 1000));
        x().shape(i, reach.area, reach.depth);
    }

    private void setGauge(int i) {
        int gauge = in(1, 50);
        checks.equal(run + "setGauge", x().setGauge(i, gauge), model.gates[i].gauge);
        model.gates[i].gauge = gauge;
    }

    private void setSource() {
        int amount = in(0, in(0, 1000));
        checks.equal(run + "setSource", x().setSource(amount), model.source);
        model.source = amount;
    }

    private void rain(int i) {
        int amount = in(1, in(1, 10000));
        model.reaches[i].told += amount;
        checks.equal(run + "rain", x().rain(i, amount), model.reaches[i].told);
    }

    private void setRule(int i) {
        Model.Gate gate = model.gates[i];
        gate.low = in(0, in(0, 1000));
        gate.high = in(gate.low, in(gate.low, 1000));
        gate.bound = in(0, in(0, 1000));
        gate.age = in(0, in(0, 100));
        x().setRule(i, gate.low, gate.high, gate.bound, gate.age);
    }

    private void byHand(int i) {
        Model.Gate gate = model.gates[i];
        int opening = in(0, 1) == 0 ? -1 : in(0, 10);
        if (opening == -1 && !gate.inHand) {
            checks.state(run + "byHand NONE", () -> x().byHand(i, -1));
            return;
        }
        checks.equal(run + "byHand", x().byHand(i, opening), gate.opening);
        gate.inHand = opening >= 0;
        gate.opening = opening >= 0 ? opening : gate.opening;
    }

    private void fallOrComeUp(int i) {
        if (model.members[i].isUp) {
            checks.state(run + "comeUp", () -> x().comeUp(i));
            x().fall(i);
            model.members[i].isUp = false;
        } else {
            checks.state(run + "fall", () -> x().fall(i));
            x().comeUp(i);
            model.comeUp(i);
        }
    }

    private void setGroup(int i) {
        int group = in(0, in(0, 3));
        checks.equal(run + "setGroup", x().setGroup(i, group), model.members[i].group);
        model.members[i].group = group;
    }

    private void setStuck(int i) {
        boolean isStuck = in(0, 1) == 1;
        checks.isTrue(run + "setStuck", x().setStuck(i, isStuck) == model.members[i].isStuck);
        model.members[i].isStuck = isStuck;
    }

    private void setTimes() {
        model.suspicion = in(1, in(1, 50));
        model.death = in(model.suspicion, in(model.suspicion, 100));
        x().setTimes(model.suspicion, model.death);
    }

    private void tick(int ticks) {
        if (model.time + ticks > 5000) {
            checks.state(run + "tick", () -> x().tick(ticks));
            return;
        }
        int spilt = 0;
        for (int i = 0; i < ticks; i++) {
            spilt += model.tick();
        }
        checks.equal(run + "tick", x().tick(ticks), spilt);
    }

    private void wrongCall() {
        int i = in(0, 7);
        int not = outside(0, 7);
        int low = in(1, 50);
        switch (in(0, 16)) {
            case 0 -> wrong(() -> x().shape(not, 1, 1));
            case 1 -> wrong(() -> x().shape(i, outside(1, 100), 1));
            case 2 -> wrong(() -> x().shape(i, 1, outside(1, 1000)));
            case 3 -> wrong(() -> x().setGauge(i, outside(1, 50)));
            case 4 -> wrong(() -> x().setSource(outside(0, 1000)));
            case 5 -> wrong(() -> x().rain(i, outside(1, 10000)));
            case 6 -> wrong(() -> x().setRule(i, low, outside(low, 1000), 1, 1));
            case 7 -> wrong(() -> x().setRule(i, low, low, outside(0, 1000), 1));
            case 8 -> wrong(() -> x().setRule(i, low, low, 1, outside(0, 100)));
            case 9 -> wrong(() -> x().byHand(i, outside(-1, 10)));
            case 10 -> wrong(() -> x().byHand(not, in(-1, 10)));
            case 11 -> wrong(() -> x().fall(not));
            case 12 -> wrong(() -> x().comeUp(not));
            case 13 -> wrong(() -> x().setGroup(i, outside(0, 3)));
            case 14 -> wrong(() -> x().setStuck(not, in(0, 1) == 1));
            case 15 -> wrong(() -> x().setTimes(low, outside(low, 100)));
            default -> wrong(() -> x().tick(outside(1, 100)));
        }
    }

    private void wrong(Checks.Call call) {
        checks.argument(run + "a wrong call", call);
    }
}
