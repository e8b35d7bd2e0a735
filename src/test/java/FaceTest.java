import java.lang.reflect.Field;
import java.lang.reflect.Member;
import java.lang.reflect.Method;
import java.lang.reflect.Modifier;
import java.util.Arrays;
import java.util.Set;
import java.util.TreeSet;

/** The public face as the document has it, and nothing else that can be seen from outside (LANGUAGE.md, rule 1). */
public final class FaceTest {
    private static final String[] METHODS = {
        "sheet(int,int,int)", "set(int,int,int)", "copy(int,int,int,int,int)", "drop(int)", "hold(int,int,int,int)",
        "holds(int,int,int)", "percent(int,int,int)", "share(int,int,int)", "truly(int,int)", "rings(int)",
        "crate(int,int)", "paper(int,int,int,int,int)", "owner(int,int,int)", "quarrels(int,int)",
        "pledge(int,int,int,int,int)", "rank(int,int,int,int,int)", "feed(long,int)", "duties()", "fault()",
        "act(int,int,int,int)", "duty(int,int)", "room(int,int,int)", "move(int,int)", "inside(int,int)",
        "lot(int,int,int)", "drawn(int,int)", "often(int,int,int,int)", "opened(int,int,int,int)", "verdict(int)",
        "list(int,int,int)", "barred(int,int)", "day(int)", "kind(int)", "as(int,int)", "ask(int,int)", "trace(int)",
        "count(int)", "status()"};
    private static final Set<Class<?>> CONSTANTS = Set.of(
        int.class, long.class, boolean.class, char.class, String.class, int[].class, long[].class, char[].class, byte[].class);

    public static void main(String[] args) throws ReflectiveOperationException {
        Due.due("NONE", PortRooms.NONE, -1000000);
        Due.due("BAD", PortRooms.BAD, -1000001);
        Due.due("STATE", PortRooms.STATE, -1000002);
        Due.due("FULL", PortRooms.FULL, -1000003);
        Due.due("public and final", PortRooms.class.getModifiers(), Modifier.PUBLIC | Modifier.FINAL);
        Due.due("one constructor", PortRooms.class.getDeclaredConstructors().length, 1);
        Due.due("it is public", PortRooms.class.getConstructor(int.class).getModifiers(), Modifier.PUBLIC);
        methods();
        Set<String> constants = new TreeSet<>();
        for (Field f : PortRooms.class.getDeclaredFields()) {
            if (!isPrivate(f)) {
                constants.add(f.getName());
            }
        }
        same(constants, new TreeSet<>(Set.of("NONE", "BAD", "STATE", "FULL")));
        for (Class<?> inside : PortRooms.class.getDeclaredClasses()) {
            boolean fits = Modifier.isStatic(inside.getModifiers()) && !Modifier.isPublic(inside.getModifiers());
            Due.due(inside + " is static and not public", fits ? 1 : 0, 1);
            fields(inside);
        }
        fields(PortRooms.class);
        Due.end();
    }

    /** LANGUAGE.md, rules 5 and 11: static fields are constants, and a class has some twenty others. */
    private static void fields(Class<?> of) {
        int others = 0;
        for (Field f : of.getDeclaredFields()) {
            if (!Modifier.isStatic(f.getModifiers())) {
                others++;
            } else if (!Modifier.isFinal(f.getModifiers()) || !CONSTANTS.contains(f.getType())) {
                Due.fails(f + " is no constant");
            }
        }
        Due.due(of + " has at most twenty fields", Math.max(others, 20), 20);
    }

    private static boolean isPrivate(Member m) {
        return Modifier.isPrivate(m.getModifiers());
    }

    private static void methods() {
        Set<String> seen = new TreeSet<>();
        Set<String> seenNames = new TreeSet<>();
        for (Method m : PortRooms.class.getDeclaredMethods()) {
            if (!isPrivate(m)) {
                Due.due(m + " is public", m.getModifiers(), Modifier.PUBLIC);
                Due.due(m + " answers an int", m.getReturnType() == int.class ? 1 : 0, 1);
                String types = Arrays.toString(Arrays.stream(m.getParameterTypes()).map(Class::getName).toArray());
                seen.add(m.getName() + "(" + types.substring(1, types.length() - 1).replace(" ", "") + ")");
                seenNames.add(m.getName());
            }
        }
        same(seen, new TreeSet<>(Arrays.asList(METHODS)));
        for (Method m : PortRooms.class.getDeclaredMethods()) {
            Due.due(m + " bears a public name", isPrivate(m) && seenNames.contains(m.getName()) ? 1 : 0, 0);
        }
        for (Class<?> inside : PortRooms.class.getDeclaredClasses()) {
            for (Method m : inside.getDeclaredMethods()) {
                Due.due(m + " bears a public name", seenNames.contains(m.getName()) ? 1 : 0, 0);
            }
        }
    }

    private static void same(Set<String> seen, Set<String> want) {
        if (!seen.equals(want)) {
            Due.fails("the face has " + seen + ", due is " + want);
        }
    }
}
