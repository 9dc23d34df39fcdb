import java.io.IOException;
import java.lang.reflect.Method;
import java.lang.reflect.Modifier;
import java.net.URL;
import java.net.URLClassLoader;
import java.nio.file.DirectoryStream;
import java.nio.file.Files;
import java.nio.file.Path;
import java.util.ArrayList;
import java.util.List;
import java.util.regex.Matcher;
import java.util.regex.Pattern;
import java.util.stream.Stream;
import javax.tools.ToolProvider;

/** What README.md shows of the class's use can be compiled and answers as it says, and it names every call and every test. */
public final class ReadmeTest {
    private static final Pattern BLOCK = Pattern.compile("(?ms)^```java\\n(.*?)^```$");
    /** One call, and behind it what it answers: a number or a constant's name, and why. */
    private static final Pattern SHOWN = Pattern.compile("((?:x\\.\\w+|tell)\\(.*\\));\\s*// (-?\\d+|[A-Z]+)(?:: \\S.*)?");
    private static final Pattern NAMED = Pattern.compile("\\| `(-?\\d+)` \\|.*\\(`(\\w+)`\\).*");
    private static final String HEAD = "public final class Shown {\n"
            + "public static void show(java.util.List<Integer> answers) {\n";

    private final StringBuilder helpers = new StringBuilder();
    private final StringBuilder body = new StringBuilder();
    private final List<String> calls = new ArrayList<>();
    private final List<Integer> due = new ArrayList<>();

    private ReadmeTest() {
    }

    public static void main(String[] args) throws IOException, ReflectiveOperationException {
        String readme = Files.readString(Path.of("README.md"));
        ReadmeTest test = new ReadmeTest();
        Matcher block = BLOCK.matcher(readme);
        while (block.find()) {
            test.take(block.group(1));
        }
        test.compare();
        test.everyCallIsShown();
        constantsAreTold(readme);
        everyTestIsTold(readme);
        Due.end();
    }

    /** A block that begins with a method is a helper; all others are one run, line by line. */
    private void take(String block) throws ReflectiveOperationException {
        if (block.startsWith("static ")) {
            helpers.append(block);
            return;
        }
        for (String line : block.split("\n")) {
            Matcher shown = SHOWN.matcher(line);
            if (shown.matches()) {
                calls.add(shown.group(1));
                due.add(numberOf(shown.group(2)));
                body.append("answers.add(").append(shown.group(1)).append(");\n");
            } else {
                Due.holds("README.md tells the answer of: " + line, !line.contains("//"));
                body.append(line).append('\n');
            }
        }
    }

    private static int numberOf(String answer) throws ReflectiveOperationException {
        boolean isName = Character.isLetter(answer.charAt(0));
        return isName ? RopeRound.class.getField(answer).getInt(null) : Integer.parseInt(answer);
    }

    private void compare() throws IOException, ReflectiveOperationException {
        List<Integer> answers = new ArrayList<>();
        Path folder = Files.createTempDirectory("readme");
        Path source = folder.resolve("Shown.java");
        Files.writeString(source, HEAD + body + "}\n" + helpers + "}\n");
        int failed = ToolProvider.getSystemJavaCompiler().run(null, null, null,
                "-cp", System.getProperty("java.class.path"), "-d", folder.toString(), source.toString());
        Due.due("the compiler, of what README.md shows,", failed, 0);
        if (failed == 0) {
            try (URLClassLoader loader = new URLClassLoader(new URL[] {folder.toUri().toURL()})) {
                loader.loadClass("Shown").getMethod("show", List.class).invoke(null, answers);
            }
            for (int i = 0; i < due.size(); i++) {
                Due.due("README.md: " + calls.get(i), answers.get(i), due.get(i));
            }
        }
        try (Stream<Path> made = Files.list(folder)) {
            for (Path file : made.toList()) {
                Files.delete(file);
            }
        }
        Files.delete(folder);
    }

    private void everyCallIsShown() {
        for (Method m : RopeRound.class.getDeclaredMethods()) {
            if (Modifier.isPublic(m.getModifiers())) {
                boolean shown = calls.stream().anyMatch(call -> call.startsWith("x." + m.getName() + "("));
                Due.holds("README.md shows what " + m.getName() + " answers", shown);
            }
        }
    }

    private static void constantsAreTold(String readme) throws ReflectiveOperationException {
        Matcher row = NAMED.matcher(readme);
        int told = 0;
        while (row.find()) {
            Due.due("README.md: " + row.group(2), numberOf(row.group(2)), Integer.parseInt(row.group(1)));
            told++;
        }
        Due.due("README.md: how many constants it tells", told, 4);
    }

    private static void everyTestIsTold(String readme) throws IOException {
        Due.holds("README.md says how to run the tests", readme.contains(".ci/run"));
        Due.holds("what it names can be run", Files.isExecutable(Path.of(".ci", "run")));
        try (DirectoryStream<Path> tests = Files.newDirectoryStream(Path.of("src", "test", "java"), "*Test.java")) {
            for (Path test : tests) {
                String name = test.getFileName().toString().replace(".java", "");
                Due.holds("README.md tells what " + name + " holds", readme.contains("| `" + name + "` |"));
            }
        }
    }
}
