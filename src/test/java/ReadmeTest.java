import java.io.IOException;
import java.lang.reflect.Method;
import java.nio.file.Files;
import java.nio.file.Path;
import java.util.ArrayList;
import java.util.List;
import java.util.function.ToIntFunction;
import java.util.regex.Matcher;
import java.util.regex.Pattern;

/** What README.md tells of the use is so: each call of its example, and the names of all calls. */
public final class ReadmeTest {
    private record Line(String call, ToIntFunction<GossipGates> ask) {
    }

    /** The example once more, call by call; one that answers nothing has NO_ANSWER. */
    private static final List<Line> EXAMPLE = List.of(
        new Line("x.setSource(100)", x -> x.setSource(100)),
        new Line("x.rain(3, 900)", x -> x.rain(3, 900)),
        new Line("x.tick(10)", x -> x.tick(10)),
        new Line("x.volume(3)", x -> x.volume(3)),
        new Line("x.level(3)", x -> x.level(3)),
        new Line("x.believed(2, 3)", x -> x.believed(2, 3)),
        new Line("x.age(2, 3)", x -> x.age(2, 3)),
        new Line("x.opening(3)", x -> x.opening(3)),
        new Line("x.byHand(3, 0)", x -> x.byHand(3, 0)),
        new Line("x.fall(3)", ReadmeTest::fall3),
        new Line("x.unnoticed()", x -> x.unnoticed()),
        new Line("x.tick(12)", x -> x.tick(12)),
        new Line("x.status(2, 3)", x -> x.status(2, 3)),
        new Line("x.safety(2)", x -> x.safety(2)),
        new Line("x.time()", x -> x.time()));

    private static final int NO_ANSWER = Integer.MIN_VALUE;
    private static final Pattern TOLD = Pattern.compile("^(x\\..*\\)); +// (?:(\\d+), )?");

    public static void main(String[] args) throws IOException {
        Checks checks = new Checks();
        String page = Files.readString(Path.of("README.md"));
        example(checks, page);
        names(checks, page);
        checks.end();
    }

    private static int fall3(GossipGates x) {
        x.fall(3);
        return NO_ANSWER;
    }

    private static void example(Checks checks, String page) {
        List<Matcher> told = new ArrayList<>();
        for (String line : page.split("\n")) {
            Matcher matcher = TOLD.matcher(line);
            if (matcher.find()) {
                told.add(matcher);
            }
        }
        checks.equal("lines of the example", told.size(), EXAMPLE.size());
        GossipGates x = new GossipGates();
        for (int i = 0; i < Math.min(told.size(), EXAMPLE.size()); i++) {
            Line line = EXAMPLE.get(i);
            String answer = told.get(i).group(2);
            checks.isTrue("the call " + line.call(), line.call().equals(told.get(i).group(1)));
            checks.equal(line.call(), line.ask().applyAsInt(x),
                answer == null ? NO_ANSWER : Integer.parseInt(answer));
        }
    }

    private static void names(Checks checks, String page) {
        List<String> named = new ArrayList<>();
        for (String line : page.split("\n")) {
            if (line.startsWith("| `")) {
                Matcher name = Pattern.compile("`(\\w+)`").matcher(line.split("\\|")[1]);
                while (name.find()) {
                    named.add(name.group(1));
                }
            }
        }
        for (Method method : GossipGates.class.getMethods()) {
            if (method.getDeclaringClass() == GossipGates.class) {
                checks.isTrue(method.getName() + " is named", named.contains(method.getName()));
            }
        }
    }
}
