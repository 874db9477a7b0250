import java.io.IOException;
import java.lang.reflect.Constructor;
import java.lang.reflect.Field;
import java.lang.reflect.Method;
import java.lang.reflect.Modifier;
import java.nio.file.Files;
import java.nio.file.Path;
import java.util.Arrays;
import java.util.List;
import java.util.Set;
import java.util.TreeSet;

/** The face of the class is the document's and nothing more, and its source keeps to LANGUAGE.md where words show it. */
final class FaceTest {
    private static final Path SOURCE = Path.of("src/main/java/GateBox.java");
    private static final Path DOC = Path.of("../shared/DOC.md");

    public static void main(String[] args) throws IOException {
        face();
        source();
        classes();
        Check.end();
    }

    private static void face() throws IOException {
        Set<String> due = new TreeSet<>();
        for (String line : Files.readAllLines(DOC)) {
            if (line.startsWith("    public ") && line.contains("(") && !line.contains("GateBox()")) {
                String head = line.trim().split("\\(")[0];
                String inside = line.substring(line.indexOf('(') + 1, line.indexOf(')'));
                due.add(head + " " + (inside.isEmpty() ? 0 : inside.split(",").length));
            }
        }
        Set<String> got = new TreeSet<>();
        for (Method m : GateBox.class.getDeclaredMethods()) {
            if (Modifier.isPublic(m.getModifiers())) {
                got.add("public " + m.getReturnType() + " " + m.getName() + " " + m.getParameterCount());
            } else {
                Check.due("private: " + m.getName(), Modifier.isPrivate(m.getModifiers()), true);
            }
        }
        Check.due("the face " + got + " is " + due, got.equals(due), true);
        for (Field f : GateBox.class.getDeclaredFields()) {
            boolean none = f.getName().equals("NONE");
            Check.due("field " + f.getName(), none ? Modifier.isPublic(f.getModifiers()) : Modifier.isPrivate(f.getModifiers()), true);
        }
        Constructor<?>[] constructors = GateBox.class.getDeclaredConstructors();
        Check.due("constructors", constructors.length, 1);
        Check.due("final", Modifier.isFinal(GateBox.class.getModifiers()), true);
    }

    private static void source() throws IOException {
        String text = Files.readString(SOURCE);
        List<String> ruledOut = List.of("->", "::", "catch", "finally", "synchronized", "assert", "volatile", "instanceof",
                "double", "float", "Object", "System.", "Exact", "package ", ".random", ".stream");
        for (String word : ruledOut) {
            Check.due("the source has no " + word, text.contains(word), false);
        }
        for (String line : text.split("\n")) {
            boolean fine = !line.startsWith("import ")
                    || Set.of("import java.util.Arrays;", "import java.util.NoSuchElementException;").contains(line);
            Check.due(line, fine, true);
        }
    }

    private static void classes() {
        Class<?>[] inside = GateBox.class.getDeclaredClasses();
        Check.due("some twelve classes", inside.length < 13, true);
        for (Class<?> c : inside) {
            Check.due(c + " is static", Modifier.isStatic(c.getModifiers()), true);
            long fields = Arrays.stream(c.getDeclaredFields()).filter(f -> !Modifier.isStatic(f.getModifiers())).count();
            Check.due(c + " has some twenty fields at most", fields <= 20, true);
            for (Method m : c.getDeclaredMethods()) {
                Check.due(m + " takes seven at most", m.getParameterCount() <= 7, true);
                boolean hides = Arrays.stream(GateBox.class.getDeclaredMethods())
                        .anyMatch(f -> Modifier.isPublic(f.getModifiers()) && f.getName().equals(m.getName()));
                Check.due(m + " bears a name of the face", hides, false);
            }
        }
    }
}
