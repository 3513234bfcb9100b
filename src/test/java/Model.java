import java.util.ArrayList;
import java.util.List;
import java.util.Map;
import java.util.TreeMap;

/** The document's words once more, built otherwise than the program, to be held against it. */
final class Model {
    record News(int version, int level, int measured) {
    }

    static final class Beat {
        int number = 0;
        int grown = 0;
        String status = "ALIVE";
    }

    static final class Gate {
        int gauge = 5;
        int opening = 0;
        int low = 20;
        int high = 40;
        int bound = 80;
        int age = 5;
        boolean inHand = false;
        int safety = 0;
        int flowed = 0;
    }

    static final class Reach {
        int area = 10;
        int depth = 100;
        int volume = 0;
        int told = 0;
        int spilled = 0;
        int gained = 0;

        int level() {
            return Math.floorDiv(volume, area);
        }

        void gain(int amount) {
            volume += amount;
            gained += amount;
        }
    }

    static final class Member {
        boolean isUp = true;
        boolean isStuck = false;
        int group = 0;
        int lastMeasured = 0;
        final Map<Integer, News> news = new TreeMap<>();
        final Beat[] beats = new Beat[8];
    }

    final Reach[] reaches = new Reach[8];
    final Gate[] gates = new Gate[8];
    final Member[] members = new Member[8];
    int source = 0;
    int suspicion = 3;
    int death = 6;
    int vain = 0;
    int time = 0;

    Model() {
        for (int i = 0; i < 8; i++) {
            reaches[i] = new Reach();
            gates[i] = new Gate();
            members[i] = new Member();
            for (int j = 0; j < 8; j++) {
                members[i].beats[j] = new Beat();
            }
        }
    }

    int version(int member, int reach) {
        News news = members[member].news.get(reach);
        return news == null ? 0 : news.version();
    }

    int believed(int member, int reach) {
        News news = members[member].news.get(reach);
        return news == null ? -1 : news.level();
    }

    int age(int member, int reach) {
        News news = members[member].news.get(reach);
        return news == null ? -1 : time - news.measured();
    }

    int status(int member, int other) {
        return List.of("ALIVE", "SUSPECTED", "DEAD").indexOf(members[member].beats[other].status);
    }

    int balance(int reach) {
        return reaches[reach].gained - gates[reach].flowed - reaches[reach].spilled;
    }

    int partner(int member, int tick) {
        List<Integer> others = new ArrayList<>();
        for (int other = 0; other < 8; other++) {
            boolean isDead = members[member].beats[other].status.equals("DEAD");
            if (other != member && (tick % 4 == 0 || !isDead)) {
                others.add(other);
            }
        }
        return others.isEmpty() ? -1 : others.get((5 * tick + 3 * member) % others.size());
    }

    int freshest(int reach) {
        int best = -1;
        for (int member = 7; member >= 0; member--) {
            int version = version(member, reach);
            if (version > 0 && (best < 0 || version >= version(best, reach))) {
                best = member;
            }
        }
        return best;
    }

    int agree(int reach) {
        int count = 0;
        for (int member = 0; member < 8; member++) {
            if (members[member].isUp && version(member, reach) > 0
                && believed(member, reach) == reaches[reach].level()) {
                count++;
            }
        }
        return count;
    }

    int unnoticed() {
        int count = 0;
        for (int member = 0; member < 8; member++) {
            boolean isHeldAlive = false;
            for (Member holder : members) {
                isHeldAlive |= holder.isUp && holder.beats[member].status.equals("ALIVE");
            }
            count += isHeldAlive && !members[member].isUp ? 1 : 0;
        }
        return count;
    }

    int mistaken() {
        int count = 0;
        for (int first = 0; first < 8; first++) {
            for (int second = 0; second < 8; second++) {
                if (first != second && members[first].isUp && members[second].isUp
                    && members[first].beats[second].status.equals("DEAD")) {
                    count++;
                }
            }
        }
        return count;
    }

    void comeUp(int member) {
        members[member].isUp = true;
        for (Beat beat : members[member].beats) {
            beat.grown = time;
        }
    }

    int tick() {
        time++;
        water();
        int spilt = spill();
        for (int i = 0; i < 8; i++) {
            if (members[i].isUp) {
                measure(i);
            }
        }
        for (int i = 0; i < 8; i++) {
            if (members[i].isUp) {
                call(i);
            }
        }
        for (int i = 0; i < 8; i++) {
            if (members[i].isUp) {
                look(i);
            }
        }
        for (int i = 0; i < 8; i++) {
            if (members[i].isUp && !gates[i].inHand) {
                rule(i);
            }
        }
        return spilt;
    }

    private void water() {
        reaches[0].gain(source);
        for (Reach reach : reaches) {
            reach.gain(reach.told);
            reach.told = 0;
        }
        int[] flows = new int[8];
        for (int i = 0; i < 8; i++) {
            flows[i] = Math.min(gates[i].opening * gates[i].gauge, reaches[i].volume);
        }
        for (int i = 0; i < 8; i++) {
            gates[i].flowed += flows[i];
            reaches[i].volume -= flows[i];
            if (i < 7) {
                reaches[i + 1].gain(flows[i]);
            }
        }
    }

    private int spill() {
        int sum = 0;
        for (int i = 0; i < 8; i++) {
            int most = reaches[i].area * reaches[i].depth;
            if (reaches[i].volume > most) {
                int above = reaches[i].volume - most;
                reaches[i].volume = most;
                reaches[i].spilled += above;
                if (i < 7) {
                    reaches[i + 1].gain(above);
                }
                sum += above;
            }
        }
        return sum;
    }

    private void measure(int i) {
        Member member = members[i];
        if (!member.isStuck) {
            member.lastMeasured = reaches[i].level();
        }
        member.news.put(i, new News(version(i, i) + 1, member.lastMeasured, time));
        member.beats[i].number++;
        member.beats[i].grown = time;
    }

    private void call(int i) {
        int called = partner(i, time);
        if (called < 0) {
            return;
        }
        Member one = members[i];
        Member other = members[called];
        if (!other.isUp || one.group != other.group) {
            vain++;
            return;
        }
        for (int reach = 0; reach < 8; reach++) {
            int first = version(i, reach);
            int second = version(called, reach);
            if (first > second) {
                other.news.put(reach, one.news.get(reach));
            } else if (second > first) {
                one.news.put(reach, other.news.get(reach));
            }
        }
        for (int about = 0; about < 8; about++) {
            tellBeat(one.beats[about], other.beats[about]);
            tellBeat(other.beats[about], one.beats[about]);
        }
    }

    private void tellBeat(Beat from, Beat to) {
        if (from.number > to.number) {
            to.number = from.number;
            to.grown = time;
            to.status = "ALIVE";
        }
    }

    private void look(int i) {
        for (int other = 0; other < 8; other++) {
            if (other != i) {
                Beat beat = members[i].beats[other];
                int ago = time - beat.grown;
                beat.status = ago > death ? "DEAD" : ago > suspicion ? "SUSPECTED" : "ALIVE";
            }
        }
    }

    private void rule(int i) {
        Gate gate = gates[i];
        News next = i == 7 ? null : members[i].news.get(i + 1);
        if (i < 7 && (next == null || time - next.measured() > gate.age)) {
            gate.safety++;
            gate.opening = gate.opening > 8 ? 10 : gate.opening + 2;
            return;
        }
        int own = believed(i, i);
        if (own > gate.high && (i == 7 || next.level() < gate.bound)) {
            gate.opening = gate.opening == 10 ? 10 : gate.opening + 1;
        } else if (own < gate.low) {
            gate.opening = gate.opening == 0 ? 0 : gate.opening - 1;
        }
    }
}
