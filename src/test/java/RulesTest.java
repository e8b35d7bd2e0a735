import java.io.IOException;
import java.nio.file.Files;
import java.nio.file.Path;
import java.util.regex.Matcher;
import java.util.regex.Pattern;

/** What LANGUAGE.md rules out and a look at the text of the class can find; its argument is the file. */
public final class RulesTest {
    private static final String[] RULED_OUT = {
        "\\b(throw|throws|try|catch|synchronized|assert|package|protected|volatile|native|transient)\\b", "->", "::",
        "\\b(hashCode|toString|getClass|wait|notify)\\b", "\\w+Exact\\b", "\\b(System|Thread|Runtime)\\.(?!arraycopy)",
        "\\b(double|float|Object|Iterator|HashMap|Random|Map|Set)\\b", "\\bimport (?!java\\.util\\.Arrays;)",
        "Arrays\\.(?!fill|copyOf)", "\\bstatic \\{", "\"\\s*\\+|\\+\\s*\""};
    private static final int MOST_CLASSES = 12, MOST_LINES = 60, MOST_PARAMETERS = 7;

    public static void main(String[] args) throws IOException {
        String source = Files.readString(Path.of(args.length > 0 ? args[0] : "src/main/java/PortRooms.java"));
        for (int k = 0; k < source.length(); k++) {
            if (source.charAt(k) > 126) {
                Due.fails("a sign that is not ASCII at " + k);
            }
        }
        String code = source.replaceAll("(?s)/\\*.*?\\*/", "").replaceAll("//[^\n]*", "");
        for (String rule : RULED_OUT) {
            Matcher m = Pattern.compile(rule).matcher(code);
            if (m.find()) {
                Due.fails("ruled out: " + m.group());
            }
        }
        Due.due("classes are at most some twelve", Math.max(MOST_CLASSES, count(code, "\\bclass \\w+")), MOST_CLASSES);
        methods(code);
        rowsAreMadeInConstructors(code);
        Due.end();
    }

    private static int count(String code, String pattern) {
        return (int) Pattern.compile(pattern).matcher(code).results().count();
    }

    private static void methods(String code) {
        Matcher m = Pattern.compile("(?m)^( +)[\\w\\[\\] ]*\\b(\\w+)\\(([^()]*)\\) \\{\n((?s:.*?))^\\1\\}").matcher(code);
        int seen = 0;
        while (m.find()) {
            seen++;
            if (m.group(4).split("\n").length > MOST_LINES) {
                Due.fails(m.group(2) + " is too long");
            }
            if (m.group(3).split(",").length > MOST_PARAMETERS) {
                Due.fails(m.group(2) + " has too many parameters");
            }
        }
        Due.due("methods are seen", seen > 80 ? 1 : 0, 1);
    }

    /** No call makes an object: what is made is made where a field is, or in the one constructor. */
    private static void rowsAreMadeInConstructors(String code) {
        for (String line : code.split("\n")) {
            boolean isField = line.matches(" +(private )?final .* = new .*;");
            if (line.contains("new ") && !isField && !line.contains("looks = new Looks(seed);")) {
                Due.fails("made by a call: " + line.trim());
            }
        }
    }
}
