import java.io.IOException;
import java.nio.file.DirectoryStream;
import java.nio.file.Files;
import java.nio.file.Path;
import java.util.Map;
import java.util.TreeMap;
import java.util.regex.Matcher;
import java.util.regex.Pattern;

/** Every sentence of the document's terms and promises is quoted by a test, and every quote stands in the document. */
public final class QuotesTest {
    private static final Path DOCUMENT = Path.of("../shared/DOC.md"), TESTS = Path.of("src/test/java");
    private static final Pattern SAYS = Pattern.compile(
        "Due\\.says\\((\\d+), (\"[^\"]*\"(?:\\s*\\+\\s*\"[^\"]*\")*)\\);");
    /** What no test can be about: what is free, and what the interface says ahead of calls. */
    private static final String[] NOT_ASKED = {
        "what later calls answer is free.", "Ahead of the calls .*? the interface says: .*?\\."};

    private final Map<Integer, String> sections = new TreeMap<>();
    private final Map<Integer, StringBuilder> left = new TreeMap<>();

    public static void main(String[] args) throws IOException {
        QuotesTest test = new QuotesTest(Files.readString(DOCUMENT));
        try (DirectoryStream<Path> files = Files.newDirectoryStream(TESTS, "*Test.java")) {
            for (Path file : files) {
                test.strikeQuotes(file.getFileName().toString(), Files.readString(file));
            }
        }
        test.nothingIsLeft();
        Due.end();
    }

    private QuotesTest(String document) {
        String whole = document.substring(document.indexOf("An object is used"), document.indexOf("## The public face"));
        String terms = document.substring(document.indexOf("## Terms") + 8, document.indexOf("## Promise 1:"));
        keep(0, whole + terms.replaceAll("```(text)?|======== \\d", " "));
        Matcher m = Pattern.compile("(?s)## Promise (\\d+): [^\n]*\\s+`[^`]*`: (.*?)(?=\n## )").matcher(document);
        while (m.find()) {
            keep(Integer.parseInt(m.group(1)), m.group(2));
        }
        Due.due("promises in the document", sections.size() - 1, 39);
    }

    private static String plain(String text) {
        return text.replaceAll("\\s+", " ").trim();
    }

    private void keep(int promise, String text) {
        String kept = plain(text);
        for (String words : NOT_ASKED) {
            kept = kept.replaceAll(words, "");
        }
        sections.put(promise, kept);
        left.put(promise, new StringBuilder(kept));
    }

    private void strikeQuotes(String file, String source) {
        Matcher m = SAYS.matcher(source);
        while (m.find()) {
            int promise = Integer.parseInt(m.group(1));
            String quote = plain(m.group(2).replaceAll("\"\\s*\\+\\s*\"", "").replaceAll("^\"|\"$", ""));
            int at = sections.getOrDefault(promise, "").indexOf(quote);
            if (at < 0) {
                Due.fails(file + " quotes what promise " + promise + " (0: the terms) does not say: " + quote);
            }
            for (int k = Math.max(at, 0); at >= 0 && k < at + quote.length(); k++) {
                left.get(promise).setCharAt(k, ' ');
            }
        }
    }

    private void nothingIsLeft() {
        left.forEach((promise, text) -> {
            if (!text.toString().isBlank()) {
                Due.fails("no test quotes of promise " + promise + " (0: the terms): " + plain(text.toString()));
            }
        });
    }
}
