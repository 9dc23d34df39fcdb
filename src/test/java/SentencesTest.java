import java.io.IOException;
import java.nio.file.DirectoryStream;
import java.nio.file.Files;
import java.nio.file.Path;
import java.util.Map;
import java.util.TreeMap;
import java.util.regex.Matcher;
import java.util.regex.Pattern;

/** Every sentence of the document, but for its face, is quoted by a test, and what the tests quote stands there. */
public final class SentencesTest {
    private static final Pattern QUOTE =
            Pattern.compile("Due\\.says\\(\\s*\"([WTP]\\d+)\",\\s*((?:\"[^\"]*\"\\s*\\+?\\s*)+)\\)");

    private static final Map<String, String> FIRST = Map.of("## What it is", "W0", "## Terms", "T0");

    /** What names no bound of its own: what the promises say is told there in short. */
    private static final String IN_SHORT = "As much as a rope goes round";

    private SentencesTest() {
    }

    public static void main(String[] args) throws IOException {
        Map<String, String> sections = sections(Files.readString(Path.of("..", "shared", "DOC.md")));
        Map<String, boolean[]> quoted = new TreeMap<>();
        for (Map.Entry<String, String> section : sections.entrySet()) {
            quoted.put(section.getKey(), new boolean[section.getValue().length()]);
        }
        try (DirectoryStream<Path> tests = Files.newDirectoryStream(Path.of("src", "test", "java"), "*Test.java")) {
            for (Path test : tests) {
                Matcher quote = QUOTE.matcher(Files.readString(test));
                while (quote.find()) {
                    String words = quote.group(2).replaceAll("\"\\s*\\+\\s*\"", "").replaceAll("^\"|\"\\s*$", "");
                    mark(test.getFileName() + "", quote.group(1), words, sections, quoted);
                }
            }
        }
        for (Map.Entry<String, String> section : sections.entrySet()) {
            String left = unquoted(section.getValue(), quoted.get(section.getKey()));
            Due.holds(section.getKey() + " is tested but for: " + left, left.isEmpty());
        }
        Due.end();
    }

    /** The sentences of What it is (W0), Terms (T0 to T4) and Promises (P1 to P28), each section in one line. */
    private static Map<String, String> sections(String document) {
        Map<String, String> sections = new TreeMap<>();
        String now = "";
        for (String line : document.split("\n")) {
            String words = line.strip();
            if (words.startsWith("## ")) {
                Matcher promise = Pattern.compile("## Promise (\\d+):.*").matcher(words);
                now = FIRST.getOrDefault(words, promise.matches() ? "P" + promise.group(1) : "");
                continue;
            }
            Matcher part = Pattern.compile("======== (\\d) (.*)").matcher(words);
            if (part.matches()) {
                now = "T" + part.group(1);
                words = part.group(2);
            }
            boolean apart = words.startsWith("```") || words.startsWith("Ahead of the calls") || words.startsWith(IN_SHORT);
            if (!now.isEmpty() && !apart && !words.isEmpty()) {
                sections.merge(now, words.replaceFirst("^`[^`]*`: ", ""), (a, b) -> a + " " + b);
            }
        }
        return sections;
    }

    private static void mark(String test, String section, String words, Map<String, String> sections,
            Map<String, boolean[]> quoted) {
        String text = sections.getOrDefault(section, "");
        int at = text.indexOf(words);
        Due.holds(test + " quotes of " + section + ": " + words, at >= 0);
        while (at >= 0) {
            for (int i = at; i < at + words.length(); i++) {
                quoted.get(section)[i] = true;
            }
            at = text.indexOf(words, at + 1);
        }
    }

    private static String unquoted(String text, boolean[] quoted) {
        StringBuilder left = new StringBuilder();
        for (int i = 0; i < quoted.length; i++) {
            left.append(quoted[i] ? ' ' : text.charAt(i));
        }
        return left.toString().strip().replaceAll("\\s+", " ");
    }
}
