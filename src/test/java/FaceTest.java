import java.io.IOException;
import java.lang.reflect.Field;
import java.lang.reflect.Method;
import java.lang.reflect.Modifier;
import java.nio.file.Files;
import java.nio.file.Path;
import java.util.Arrays;
import java.util.Set;
import java.util.TreeSet;

/** The face is the document's and no more, and the source keeps to the rules of the language that can be seen by reading it. */
public final class FaceTest {
    private static final String[] FACE = {
        "row int int int", "set int int int", "copy int int int int int", "drop int", "feed long int", "ground",
        "fault", "takes int int", "judge int int int int", "lay int int int int", "lift int", "man int int",
        "whose int", "most int int int", "tied int", "shares int", "least int int int", "wet int int",
        "found int int int int", "image int", "restore int", "kind int", "as int int", "ask int int", "trace int",
        "count int", "status"};
    private static final String[] NOT_IN_THE_LANGUAGE = {
        "\\bthrow\\b", "\\btry\\b", "\\bcatch\\b", "\\bsynchronized\\b", "\\bassert\\b", "\\bimport\\b", "\\bpackage\\b",
        "->", "::", "\\bSystem\\.(?!arraycopy)", "\\bfloat\\b", "\\bdouble\\b", "\\bObject\\b", "@", "Exact\\b"};

    private FaceTest() {
    }

    public static void main(String[] args) throws IOException {
        face();
        for (Class<?> inside : RopeRound.class.getDeclaredClasses()) {
            Due.holds(inside + " is static", Modifier.isStatic(inside.getModifiers()));
            Due.holds(inside + " is not of the face", (inside.getModifiers() & (Modifier.PUBLIC | Modifier.PROTECTED)) == 0);
            noFaceNames(inside);
            fewFields(inside);
        }
        fewFields(RopeRound.class);
        Due.holds("few classes", RopeRound.class.getDeclaredClasses().length < 12);
        source(Files.readString(Path.of(args.length > 0 ? args[0] : "src/main/java/RopeRound.java")));
        Due.end();
    }

    private static void face() {
        Set<String> methods = new TreeSet<>();
        Set<String> names = new TreeSet<>();
        for (Method m : RopeRound.class.getDeclaredMethods()) {
            if (Modifier.isPublic(m.getModifiers())) {
                StringBuilder line = new StringBuilder(m.getName());
                for (Class<?> type : m.getParameterTypes()) {
                    line.append(' ').append(type.getName());
                }
                methods.add(line.toString());
                names.add(m.getName());
                Due.holds(line + " answers an int", m.getReturnType() == int.class);
            }
        }
        Due.holds("the methods of the face: " + methods, methods.equals(new TreeSet<>(Arrays.asList(FACE))));
        for (Method m : RopeRound.class.getDeclaredMethods()) {
            boolean isPrivate = Modifier.isPrivate(m.getModifiers());
            Due.holds(m + " is public or private", isPrivate || Modifier.isPublic(m.getModifiers()));
            Due.holds(m + " has a name of its own", !isPrivate || !names.contains(m.getName()));
        }
        Set<String> constants = new TreeSet<>();
        for (Field f : RopeRound.class.getDeclaredFields()) {
            if (!Modifier.isPrivate(f.getModifiers())) {
                constants.add(f.getName());
            }
        }
        Due.holds("the constants: " + constants, constants.equals(Set.of("NONE", "BAD", "STATE", "FULL")));
        Due.holds("final", Modifier.isFinal(RopeRound.class.getModifiers()));
        Due.holds("one constructor", RopeRound.class.getConstructors().length == 1);
    }

    private static void noFaceNames(Class<?> inside) {
        for (Method m : inside.getDeclaredMethods()) {
            boolean taken = Arrays.stream(FACE).anyMatch(line -> line.split(" ")[0].equals(m.getName()));
            Due.holds(m + " has a name that is not of the face", !taken);
            Due.holds(m + " has few parameters", m.getParameterCount() <= 7);
        }
    }

    private static void fewFields(Class<?> type) {
        int own = 0;
        for (Field f : type.getDeclaredFields()) {
            boolean isStatic = Modifier.isStatic(f.getModifiers());
            own += isStatic ? 0 : 1;
            Due.holds(f + " is final if it is static", !isStatic || Modifier.isFinal(f.getModifiers()));
        }
        Due.holds(type + " has few fields", own <= 20);
    }

    private static void source(String text) {
        String code = text.replaceAll("(?s)/\\*.*?\\*/", " ").replaceAll("//[^\\n]*", " ");
        for (String pattern : NOT_IN_THE_LANGUAGE) {
            Due.holds("the source is without " + pattern, !java.util.regex.Pattern.compile(pattern).matcher(code).find());
        }
        int since = 0;
        String[] lines = text.split("\n");
        for (int i = 0; i < lines.length; i++) {
            if (lines[i].matches("( {4}| {8})[a-z].*\\(.*\\) \\{")) {
                since = i;
            }
            if (lines[i].matches("( {4}| {8})\\}")) {
                Due.holds("the method that ends at line " + (i + 1) + " is short", i - since <= 60);
            }
            Due.holds("line " + (i + 1) + " is short", lines[i].length() <= 120);
        }
    }
}
