import java.io.IOException;
import java.nio.file.Files;
import java.nio.file.Path;
import java.util.Map;
import java.util.TreeMap;
import java.util.regex.Matcher;
import java.util.regex.Pattern;

/** What LANGUAGE.md rules out and a look at the text of the class can find; its argument is the file. */
public final class RulesTest {
    private static final String[] RULED_OUT = {
        "\\b(throw|throws|try|catch|synchronized|assert|package|protected|volatile|native|transient)\\b", "->", "::",
        "\\b(hashCode|toString|getClass|wait|notify)\\b", "\\w+Exact\\b", "\\b(System|Thread|Runtime)\\.(?!arraycopy)",
        "\\b(double|float|Object|Iterator|HashMap|Random|Map|Set)\\b", "\\bimport (?!java\\.util\\.Arrays;)",
        "Arrays\\.(?!fill|copyOf)", "\\b(Integer|Long|Math)\\.\\w+\\b(?!\\()", "\\bstatic \\{", "\"\\s*\\+|\\+\\s*\""};
    private static final int MOST_CLASSES = 12, MOST_LINES = 60, MOST_PARAMETERS = 7, MOST_DEPTH = 8;
    /** The one method that calls itself; it carries its depth as an argument. */
    private static final String RECURSIVE = "along";

    public static void main(String[] args) throws IOException {
        String source = Files.readString(Path.of(args.length > 0 ? args[0] : "src/main/java/PortRooms.java"));
        for (int k = 0; k < source.length(); k++) {
            if (source.charAt(k) > 126) {
                Due.fails("a sign that is not ASCII at " + k);
            }
        }
        String code = source.replaceAll("(?s)/\\*.*?\\*/", "").replaceAll("//[^\n]*", "");
        for (String rule : RULED_OUT) {
            Matcher m = Pattern.compile(rule).matcher(code);
            if (m.find()) {
                Due.fails("ruled out: " + m.group());
            }
        }
        Due.due("classes are at most some twelve", Math.max(MOST_CLASSES, count(code, "\\bclass \\w+")), MOST_CLASSES);
        methods(code);
        rowsAreMadeInConstructors(code);
        Due.end();
    }

    private static int count(String code, String pattern) {
        return (int) Pattern.compile(pattern).matcher(code).results().count();
    }

    private static void methods(String code) {
        Matcher m = Pattern.compile("(?m)^( +)[\\w\\[\\] ]*\\b(\\w+)\\(([^()]*)\\) \\{\n((?s:.*?))^\\1\\}").matcher(code);
        int seen = 0;
        Map<String, StringBuilder> bodies = new TreeMap<>();
        while (m.find()) {
            seen++;
            bodies.computeIfAbsent(m.group(2), name -> new StringBuilder()).append(m.group(4));
            if (m.group(4).split("\n").length > MOST_LINES) {
                Due.fails(m.group(2) + " is too long");
            }
            if (m.group(3).split(",").length > MOST_PARAMETERS) {
                Due.fails(m.group(2) + " has too many parameters");
            }
        }
        Due.due("methods are seen", seen > 80 ? 1 : 0, 1);
        for (String name : bodies.keySet()) {
            Due.due("calls from " + name + " go at most eight deep", Math.max(depth(bodies, name, 1), MOST_DEPTH), MOST_DEPTH);
        }
    }

    /** Methods of one name are taken as one, so this is the true depth or more; a ring of calls is as deep as can be. */
    private static int depth(Map<String, StringBuilder> bodies, String from, int depth) {
        int deepest = depth;
        for (String name : bodies.keySet()) {
            boolean isOwn = name.equals(from) && name.equals(RECURSIVE);
            boolean isCalled = Pattern.compile("\\b" + name + "\\(").matcher(bodies.get(from)).find();
            if (isCalled && !isOwn && deepest <= MOST_DEPTH) {
                deepest = Math.max(deepest, depth(bodies, name, depth + 1));
            }
        }
        return deepest;
    }

    /** No call makes an object: what is made is made where a field is, or in the one constructor. */
    private static void rowsAreMadeInConstructors(String code) {
        for (String line : code.split("\n")) {
            boolean isField = line.matches(" +(private )?final .* = new .*;");
            if (line.contains("new ") && !isField && !line.contains("looks = new Looks(seed);")) {
                Due.fails("made by a call: " + line.trim());
            }
        }
    }
}
