import java.io.IOException;
import java.lang.reflect.Constructor;
import java.lang.reflect.Field;
import java.lang.reflect.Method;
import java.lang.reflect.Modifier;
import java.nio.file.Files;
import java.nio.file.Path;
import java.util.Arrays;
import java.util.List;
import java.util.Set;
import java.util.TreeSet;

/** The face of the class is the document's and nothing more, and its source keeps to LANGUAGE.md where words show it. */
final class FaceTest {
    private static final Path SOURCE = Path.of("src/main/java/GateBox.java");
    private static final Path DOC = Path.of("../shared/DOC.md");

    public static void main(String[] args) throws IOException {
        face();
        source();
        classes();
        Check.end();
    }

    private static void face() throws IOException {
        Set<String> due = new TreeSet<>();
        for (String line : Files.readAllLines(DOC)) {
            if (line.startsWith("    public ") && line.contains("(") && !line.contains("GateBox()")) {
                due.add(line.trim().replaceAll(" [a-z]+([,)])", "$1"));
            }
        }
        Set<String> got = new TreeSet<>();
        for (Method m : GateBox.class.getDeclaredMethods()) {
            if (Modifier.isPublic(m.getModifiers())) {
                got.add(told(m));
            } else {
                Check.due("private: " + m.getName(), Modifier.isPrivate(m.getModifiers()), true);
            }
        }
        Check.due("the face " + got + " is " + due, got.equals(due), true);
        for (Field f : GateBox.class.getDeclaredFields()) {
            boolean none = f.getName().equals("NONE");
            Check.due("field " + f.getName(), none ? Modifier.isPublic(f.getModifiers()) : Modifier.isPrivate(f.getModifiers()), true);
        }
        Constructor<?>[] constructors = GateBox.class.getDeclaredConstructors();
        Check.due("constructors", constructors.length, 1);
        Check.due("a public one", Modifier.isPublic(constructors[0].getModifiers()) && constructors[0].getParameterCount() == 0, true);
        Check.due("a public class", Modifier.isPublic(GateBox.class.getModifiers()), true);
        Check.due("final", Modifier.isFinal(GateBox.class.getModifiers()), true);
    }

    /** A method as the document's face has it, without the names of what it takes. */
    private static String told(Method m) {
        StringBuilder told = new StringBuilder("public ").append(m.getReturnType()).append(" ").append(m.getName()).append("(");
        String comma = "";
        for (Class<?> type : m.getParameterTypes()) {
            told.append(comma).append(type);
            comma = ", ";
        }
        told.append(")");
        comma = " throws ";
        for (Class<?> type : m.getExceptionTypes()) {
            told.append(comma).append(type.getSimpleName());
            comma = ", ";
        }
        return told.append(";").toString();
    }

    private static void source() throws IOException {
        String text = Files.readString(SOURCE);
        List<String> ruledOut = List.of("->", "::", "catch", "finally", "synchronized", "assert", "volatile", "instanceof",
                "double", "float", "Object", "System.", "Exact", "package ", ".random", ".stream");
        for (String word : ruledOut) {
            Check.due("the source has no " + word, text.contains(word), false);
        }
        for (String line : text.split("\n")) {
            boolean fine = !line.startsWith("import ")
                    || Set.of("import java.util.Arrays;", "import java.util.NoSuchElementException;").contains(line);
            Check.due(line, fine, true);
        }
    }

    private static void classes() {
        Class<?>[] inside = GateBox.class.getDeclaredClasses();
        Check.due("some twelve classes", inside.length < 13, true);
        for (Class<?> c : inside) {
            Check.due(c + " is static", Modifier.isStatic(c.getModifiers()), true);
            long fields = Arrays.stream(c.getDeclaredFields()).filter(f -> !Modifier.isStatic(f.getModifiers())).count();
            Check.due(c + " has some twenty fields at most", fields <= 20, true);
            for (Method m : c.getDeclaredMethods()) {
                Check.due(m + " takes seven at most", m.getParameterCount() <= 7, true);
                boolean hides = Arrays.stream(GateBox.class.getDeclaredMethods())
                        .anyMatch(f -> Modifier.isPublic(f.getModifiers()) && f.getName().equals(m.getName()));
                Check.due(m + " bears a name of the face", hides, false);
            }
        }
    }
}
