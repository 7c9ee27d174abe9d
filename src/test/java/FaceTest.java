import java.io.IOException;
import java.lang.reflect.Field;
import java.lang.reflect.Method;
import java.lang.reflect.Modifier;
import java.nio.file.Files;
import java.nio.file.Path;
import java.util.List;
import java.util.Set;
import java.util.TreeSet;
import java.util.regex.Matcher;
import java.util.regex.Pattern;

/** The face of the class, and those rules of LANGUAGE.md that a text or a class file shows. */
public final class FaceTest {
    private static final List<String> FACE = List.of(
            "int row()", "int exchange(int, int, int, int)", "boolean cut(int, int)",
            "int tell(int, int, int)", "int quarrel(int)", "int rule(int, int)", "int by(int, int)",
            "int states()", "int leads(int, int, int)", "boolean begin()", "int say(int, int)",
            "int field(int)", "int ran(int)", "int held(int, int)", "int fresh(int, int)",
            "int count(int)", "boolean image(int)", "boolean again(int)");
    private static final Set<String> LIBRARY = Set.of("Arrays.fill", "System.arraycopy", "Math.min", "Math.max");

    public static void main(String[] args) throws IOException {
        face();
        insideClasses();
        String source = Files.readString(Path.of("src/main/java/RecordedNeighbours.java"));
        String code = source.replaceAll("(?s)/\\*.*?\\*/", "").replaceAll("//[^\n]*", "");
        refusedWords(code);
        library(code);
        Check.end();
    }

    private static void face() {
        Class<?> face = RecordedNeighbours.class;
        Check.due("public and final", face.getModifiers(), Modifier.PUBLIC | Modifier.FINAL);
        Set<String> seen = new TreeSet<>();
        for (Method m : face.getDeclaredMethods()) {
            if (!Modifier.isPrivate(m.getModifiers())) {
                List<String> types = java.util.Arrays.stream(m.getParameterTypes()).map(Class::getName).toList();
                seen.add(m.getReturnType().getName() + " " + m.getName() + "(" + String.join(", ", types) + ")");
            }
        }
        Check.due("methods of the face: " + seen, seen.equals(new TreeSet<>(FACE)), true);
        Check.due("one constructor", face.getConstructors().length, 1);
        Check.due("no other constructor", face.getDeclaredConstructors().length, 1);
        for (Field f : face.getDeclaredFields()) {
            boolean hidden = Modifier.isPrivate(f.getModifiers());
            Check.due("field " + f.getName(), hidden != f.getName().equals("NONE"), true);
        }
    }

    private static void insideClasses() {
        Set<String> publicNames = new TreeSet<>();
        for (String method : FACE) {
            publicNames.add(method.replaceAll(".* (\\w+)\\(.*", "$1"));
        }
        Class<?>[] inside = RecordedNeighbours.class.getDeclaredClasses();
        Check.due("some twelve classes", inside.length <= 12, true);
        for (Class<?> c : inside) {
            int modifiers = c.getModifiers();
            Check.due(c + " is static", Modifier.isStatic(modifiers), true);
            Check.due(c + " is hidden", Modifier.isPublic(modifiers) || Modifier.isProtected(modifiers), false);
            for (Method m : c.getDeclaredMethods()) {
                Check.due(m + " has a name of its own", publicNames.contains(m.getName()), false);
            }
        }
    }

    private static void refusedWords(String code) {
        String[] refused = {"\\bthrow\\b", "\\btry\\b", "\\bcatch\\b", "\\bsynchronized\\b", "\\bassert\\b",
            "->", "::", "\\bpackage\\b", "\\w+Exact\\b", "import (?!java\\.util\\.(Arrays|ArrayList|List|Iterator);)"};
        for (String word : refused) {
            Check.due("text has " + word, Pattern.compile(word).matcher(code).find(), false);
        }
    }

    /** Rule 4: "The library: only what stands here." Functions stand there, constants such as Integer's do not. */
    private static void library(String code) {
        Matcher used = Pattern.compile("\\b[A-Z]\\w*\\.\\w+\\b").matcher(code);
        while (used.find()) {
            Check.due("library has " + used.group(), LIBRARY.contains(used.group()), true);
        }
    }
}
