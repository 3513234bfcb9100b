import java.lang.reflect.Constructor;
import java.lang.reflect.Field;
import java.lang.reflect.Member;
import java.lang.reflect.Method;
import java.lang.reflect.Modifier;
import java.util.ArrayList;
import java.util.Arrays;
import java.util.Collections;
import java.util.List;
import java.util.stream.Collectors;

/** The public face is the document's, and nothing else can be seen (rule 1 of LANGUAGE.md). */
public final class FaceTest {
    private static final String[] METHODS = {
        "void shape(int,int,int) A", "int setGauge(int,int) A", "int setSource(int) A",
        "int rain(int,int) A", "int volume(int) A", "int volumeByBalance(int) A",
        "int level(int) A", "int flowed(int) A", "int spilled(int) A",
        "void setRule(int,int,int,int,int) A", "int byHand(int,int) AS", "int opening(int) A",
        "int safety(int) A", "void fall(int) AS", "void comeUp(int) AS",
        "int setGroup(int,int) A", "boolean setStuck(int,boolean) A", "void setTimes(int,int) A",
        "int believed(int,int) A", "int version(int,int) A", "int age(int,int) A",
        "int beat(int,int) A", "int status(int,int) A", "int partner(int) A",
        "int freshest(int) A", "int agree(int) A", "int unnoticed() ", "int mistaken() ",
        "int vain() ", "int tick(int) AS", "int time() ",
    };

    public static void main(String[] args) {
        Checks checks = new Checks();
        Class<?> face = GossipGates.class;
        checks.isTrue("public", Modifier.isPublic(face.getModifiers()));
        checks.isTrue("final", Modifier.isFinal(face.getModifiers()));
        constructor(checks, face);
        constants(checks, face);
        methods(checks, face);
        inside(checks, face);
        checks.end();
    }

    private static void constructor(Checks checks, Class<?> face) {
        Constructor<?>[] all = face.getDeclaredConstructors();
        checks.equal("constructors", all.length, 1);
        checks.isTrue("public constructor", Modifier.isPublic(all[0].getModifiers()));
        checks.equal("constructor's parameters", all[0].getParameterCount(), 0);
    }

    private static void constants(Checks checks, Class<?> face) {
        checks.equal("NONE", GossipGates.NONE, -1);
        checks.equal("ALIVE", GossipGates.ALIVE, 0);
        checks.equal("SUSPECTED", GossipGates.SUSPECTED, 1);
        checks.equal("DEAD", GossipGates.DEAD, 2);
        List<String> seen = new ArrayList<>();
        for (Field field : face.getDeclaredFields()) {
            if (!isHidden(field)) {
                seen.add(Modifier.toString(field.getModifiers()) + " " + field.getName());
            }
        }
        Collections.sort(seen);
        checks.isTrue("fields seen: " + seen, seen.equals(List.of(
            "public static final ALIVE", "public static final DEAD",
            "public static final NONE", "public static final SUSPECTED")));
    }

    private static void methods(Checks checks, Class<?> face) {
        List<String> seen = new ArrayList<>();
        List<String> names = new ArrayList<>();
        for (Method method : face.getDeclaredMethods()) {
            if (!isHidden(method)) {
                seen.add(told(method));
                names.add(method.getName());
                checks.equal(method + " modifiers", method.getModifiers(), Modifier.PUBLIC);
            }
        }
        List<String> due = new ArrayList<>(Arrays.asList(METHODS));
        Collections.sort(seen);
        Collections.sort(due);
        checks.isTrue("methods seen: " + seen, seen.equals(due));
        for (Method method : face.getDeclaredMethods()) {
            checks.isTrue(method + " bears a public name",
                !isHidden(method) || !names.contains(method.getName()));
        }
    }

    private static void inside(Checks checks, Class<?> face) {
        for (Class<?> inner : face.getDeclaredClasses()) {
            int modifiers = inner.getModifiers();
            checks.isTrue(inner + " is hidden",
                !Modifier.isPublic(modifiers) && !Modifier.isProtected(modifiers));
            checks.isTrue(inner + " is static", Modifier.isStatic(modifiers));
        }
    }

    private static boolean isHidden(Member member) {
        return Modifier.isPrivate(member.getModifiers()) || member.isSynthetic();
    }

    private static String told(Method method) {
        String parameters = Arrays.stream(method.getParameterTypes())
            .map(Class::getSimpleName).collect(Collectors.joining(","));
        StringBuilder thrown = new StringBuilder();
        for (Class<?> type : method.getExceptionTypes()) {
            thrown.append(type == IllegalArgumentException.class ? "A"
                : type == IllegalStateException.class ? "S" : type.getName());
        }
        return method.getReturnType().getSimpleName() + " " + method.getName()
            + "(" + parameters + ") " + thrown;
    }
}
