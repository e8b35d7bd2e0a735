import java.lang.reflect.Method;
import java.util.ArrayList;
import java.util.Arrays;
import java.util.List;
import java.util.Random;

/** Random runs of 512 calls, each answer compared with PlainPort's; the runs are the same each time. */
public final class RandomRunsTest {
    private static final int RUNS = 1500, CALLS = 512, MANY_CALLS = 100000;
    /** Each call, and for each of its numbers what it is about. */
    private static final String[] CALL = {
        "sheet sheet lane size", "set sheet place item", "copy sheet place sheet place size", "drop sheet",
        "hold owner company percent day", "holds sheet place few", "percent owner company day",
        "share person owner day", "truly owner day", "rings day", "crate owner worth",
        "paper crate owner owner day later", "owner crate day day", "quarrels crate day",
        "pledge crate person worth day later", "rank crate day land rank two", "feed long eight", "duties", "fault",
        "act crate four day days", "duty crate three", "room room two air", "room room one insured", "move crate room",
        "inside room three", "lot lotcrate day lot", "drawn day air", "often crate day later air",
        "opened crate day weight marks", "verdict crate", "list person day later", "barred crate day", "day day",
        "kind crate", "as crate kind", "ask crate two", "trace four", "count ten", "status"};
    private static final int[] ODD = {
        Integer.MIN_VALUE, Integer.MAX_VALUE, -1, -2, 0, 10, 12, 13, 20, 60, 61, 100, 101, 255, 256, 999, 1000, 9999, 10000,
        100000, 100001, 1000000, 1000001, PortRooms.NONE};
    private static final String[] WORDS = {
        "sold", "shown", "out", "mended", "part", ">", ";", "5", "100", "101", "9999", "12345", "x", "\n", " ", "\u00ff"};

    private final Random random;
    private final PortRooms port;
    private final PlainPort plain;
    private final int[] weights = new int[CALL.length];
    private final List<String> told = new ArrayList<>();
    private int days;
    private int latestDay;

    private RandomRunsTest(int run) {
        random = new Random(run);
        int seed = run % 5 == 0 ? run : random.nextInt();
        port = new PortRooms(seed);
        plain = new PlainPort(seed);
        days = 1 + random.nextInt(run % 7 == 0 ? 9999 : 30);
        for (int k = 0; k < weights.length; k++) {
            weights[k] = 1 + random.nextInt(8) * random.nextInt(3);
        }
    }

    public static void main(String[] args) throws ReflectiveOperationException {
        for (int run = 0; run < RUNS; run++) {
            new RandomRunsTest(run).go(run);
        }
        for (int run = 0; run < 5; run++) {
            new RandomRunsTest(run).goOn();
        }
        Due.end();
    }

    /** Any numbers, and far more calls than are promised: no call throws, though what these answer is free. */
    private void goOn() throws ReflectiveOperationException {
        for (int k = 0; k < MANY_CALLS; k++) {
            String[] parts = CALL[random.nextInt(CALL.length)].split(" ");
            Object[] numbers = new Object[parts.length - 1];
            for (int j = 0; j < numbers.length; j++) {
                int v = random.nextInt(9) == 0 ? random.nextInt() : number(parts[j + 1]);
                numbers[j] = parts[j + 1].equals("long") ? (Object) random.nextLong() : (Object) v;
            }
            method(PortRooms.class, parts[0], numbers).invoke(port, numbers);
        }
    }

    private void go(int run) throws ReflectiveOperationException {
        int total = Arrays.stream(weights).sum();
        for (int k = 0; k < 3; k++) {
            call(run, "crate owner worth");
        }
        for (int n = told.size(); n < CALLS; n = told.size()) {
            if (random.nextInt(40) == 0) {
                feedText(run);
                continue;
            }
            int pick = random.nextInt(total), k = 0;
            while (pick >= weights[k]) {
                pick -= weights[k];
                k++;
            }
            if (!call(run, CALL[k])) {
                return;
            }
        }
    }

    private void feedText(int run) throws ReflectiveOperationException {
        StringBuilder text = new StringBuilder();
        for (int n = random.nextInt(14); n > 0; n--) {
            text.append(WORDS[random.nextInt(4)]).append(random.nextInt(3) == 0 ? ">" + random.nextInt(50) : " ");
            text.append("part ").append(random.nextInt(102)).append(random.nextInt(4) == 0 ? " ;\n" : ";");
        }
        if (random.nextInt(3) == 0) {
            text.insert(random.nextInt(text.length() + 1), WORDS[random.nextInt(WORDS.length)]);
        }
        if (random.nextInt(5) == 0) {
            text.setLength(random.nextInt(text.length() + 1));
        }
        for (int k = 0; k < text.length(); k += 8) {
            int n = Math.min(8, text.length() - k);
            long w = random.nextLong();
            for (int j = 0; j < n; j++) {
                w = w << 8 | text.charAt(k + j);
            }
            compare(run, "feed", new Object[] {w, n});
        }
        compare(run, "duties", new Object[0]);
        compare(run, "fault", new Object[0]);
    }

    private boolean call(int run, String spec) throws ReflectiveOperationException {
        String[] parts = spec.split(" ");
        Object[] numbers = new Object[parts.length - 1];
        for (int k = 0; k < numbers.length; k++) {
            int v = random.nextInt(60) == 0 ? ODD[random.nextInt(ODD.length)] : number(parts[k + 1]);
            numbers[k] = parts[k + 1].equals("long") ? (Object) random.nextLong() : (Object) v;
        }
        return compare(run, parts[0], numbers);
    }

    private int number(String about) {
        switch (about) {
            case "sheet": return random.nextInt(3);
            case "lane": case "three": return random.nextInt(3);
            case "size": return random.nextInt(random.nextInt(3) == 0 ? 60 : 12) - random.nextInt(12) / 11;
            case "place": return random.nextInt(random.nextInt(3) == 0 ? 50 : 9);
            case "item": return random.nextInt(random.nextInt(9) == 0 ? 100000 : 21);
            case "few": return random.nextInt(3) == 0 ? 1 + random.nextInt(15) : 1;
            case "owner": return random.nextInt(random.nextBoolean() ? 20 : 13);
            case "company": return 10 + random.nextInt(random.nextInt(3) == 0 ? 10 : 5);
            case "person": return random.nextInt(random.nextBoolean() ? 10 : 4);
            case "percent": return random.nextInt(3) == 0 ? 100 - random.nextInt(3) : random.nextInt(101);
            case "day": latestDay = random.nextInt(days); return latestDay;
            case "later": return latestDay + random.nextInt(8);
            case "worth": return 1 + random.nextInt(random.nextInt(4) == 0 ? 100000 : 500);
            case "crate": return random.nextInt(random.nextInt(4) == 0 ? 12 : 4);
            case "lotcrate": case "air": return random.nextInt(12);
            case "land": case "four": return random.nextInt(4);
            case "rank": return random.nextInt(random.nextInt(3) == 0 ? 12 : 3);
            case "two": return random.nextInt(2);
            case "one": return 1;
            case "eight": return 1 + random.nextInt(8);
            case "days": return random.nextInt(60);
            case "room": return random.nextInt(8) == 0 ? PortRooms.NONE : random.nextInt(6);
            case "insured": return random.nextInt(random.nextBoolean() ? 1000 : 200000);
            case "lot": return 1 + random.nextInt(1000000);
            case "weight": return 500 + random.nextInt(random.nextBoolean() ? 12 : 140);
            case "marks": return 255 & ~(random.nextInt(3) == 0 ? 1 << random.nextInt(8) : 0);
            case "kind": return random.nextInt(5);
            case "ten": return random.nextInt(10);
            default: return 0;
        }
    }

    private static Method method(Class<?> of, String name, Object[] numbers) throws NoSuchMethodException {
        Class<?>[] types = new Class<?>[numbers.length];
        for (int k = 0; k < types.length; k++) {
            types[k] = numbers[k] instanceof Long ? long.class : int.class;
        }
        return of.getDeclaredMethod(name, types);
    }

    private boolean compare(int run, String name, Object[] numbers) throws ReflectiveOperationException {
        int got = (Integer) method(PortRooms.class, name, numbers).invoke(port, numbers);
        int want = (Integer) method(PlainPort.class, name, numbers).invoke(plain, numbers);
        told.add(name + Arrays.toString(numbers) + " " + want);
        if (got != want) {
            Due.due("run " + run + ", call " + told.size() + ": " + name + Arrays.toString(numbers), got, want);
        }
        return got == want;
    }
}
