import java.io.IOException;
import java.lang.reflect.Method;
import java.nio.file.Files;
import java.nio.file.Path;
import java.util.HashMap;
import java.util.Map;
import java.util.regex.Matcher;
import java.util.regex.Pattern;

/** Makes the calls that README.md shows, each of which must answer what stands behind it. */
public final class ReadmeTest {
    private static final Pattern MADE = Pattern.compile("PortRooms port = new PortRooms\\((\\d+)\\);");
    private static final Pattern CALL = Pattern.compile(
        "(?:int (\\w+) = )?port\\.(\\w+)\\(([^()]*)\\); +// (-?\\d+|NONE|BAD|STATE|FULL): .+");

    private final Map<String, Long> known = new HashMap<>();
    private PortRooms port;
    private int calls;

    public static void main(String[] args) throws IOException, ReflectiveOperationException {
        String readme = Files.readString(Path.of("README.md"));
        Matcher shown = Pattern.compile("(?s)```java\n(.*?)```").matcher(readme);
        int calls = 0;
        while (shown.find()) {
            ReadmeTest test = new ReadmeTest();
            for (String line : shown.group(1).split("\n")) {
                test.read(line);
            }
            calls += test.calls;
        }
        Due.due("README.md shows calls", calls > 0 ? 1 : 0, 1);
        Due.end();
    }

    private ReadmeTest() {
        known.put("NONE", (long) PortRooms.NONE);
        known.put("BAD", (long) PortRooms.BAD);
        known.put("STATE", (long) PortRooms.STATE);
        known.put("FULL", (long) PortRooms.FULL);
    }

    private void read(String line) throws ReflectiveOperationException {
        Matcher made = MADE.matcher(line);
        Matcher call = CALL.matcher(line);
        if (made.matches()) {
            port = new PortRooms(Integer.parseInt(made.group(1)));
        } else if (call.matches()) {
            make(call);
        } else if (!line.isBlank()) {
            Due.fails("README.md has a line that is no call: " + line);
        }
    }

    private void make(Matcher call) throws ReflectiveOperationException {
        String[] words = call.group(3).isEmpty() ? new String[0] : call.group(3).split(", ");
        long answer = ((Integer) answer(call.group(2), words)).longValue();
        Due.due("README.md: " + call.group(2) + "(" + call.group(3) + ")", answer, number(call.group(4)));
        if (call.group(1) != null) {
            known.put(call.group(1), answer);
        }
        calls++;
    }

    private Object answer(String name, String[] words) throws ReflectiveOperationException {
        for (Method m : PortRooms.class.getMethods()) {
            if (m.getName().equals(name) && m.getParameterCount() == words.length) {
                Object[] numbers = new Object[words.length];
                for (int k = 0; k < numbers.length; k++) {
                    boolean isLong = m.getParameterTypes()[k] == long.class;
                    numbers[k] = isLong ? (Object) number(words[k]) : (Object) (int) number(words[k]);
                }
                return m.invoke(port, numbers);
            }
        }
        throw new NoSuchMethodException(name);
    }

    private long number(String word) {
        return known.containsKey(word) ? known.get(word) : Long.decode(word.replace("L", ""));
    }
}
