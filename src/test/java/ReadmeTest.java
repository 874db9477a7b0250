import java.io.IOException;
import java.lang.reflect.InvocationTargetException;
import java.lang.reflect.Method;
import java.nio.file.Files;
import java.nio.file.Path;
import java.util.List;
import java.util.Set;
import java.util.TreeSet;
import java.util.regex.Matcher;
import java.util.regex.Pattern;

/** Makes the calls that README.md shows, on one object and in their order, and looks at the answers told behind them. */
final class ReadmeTest {
    private static final Pattern READ = Pattern.compile("read\\(box, (\\d), \"(.*)\"\\); // (-?\\d+).*");
    private static final Pattern CALL = Pattern.compile("box\\.(\\w+)\\((.*)\\);(?: // (-?\\d+|true|false).*)?");

    public static void main(String[] args) throws IOException, ReflectiveOperationException {
        List<String> lines = Files.readAllLines(Path.of("README.md"));
        Set<String> named = new TreeSet<>();
        GateBox box = new GateBox();
        for (String line : lines) {
            Matcher read = READ.matcher(line);
            Matcher call = CALL.matcher(line);
            if (read.matches()) {
                Check.due(line, Check.gate(box, Integer.parseInt(read.group(1)), read.group(2)), Integer.parseInt(read.group(3)));
            } else if (call.matches()) {
                Check.due(line, answer(box, call.group(1), call.group(2)), String.valueOf(call.group(3)));
                named.add(call.group(1));
            }
        }
        Check.due("README.md shows many calls", named.size() > 20, true);
        for (Method m : GateBox.class.getMethods()) {
            if (m.getDeclaringClass() == GateBox.class) {
                String name = m.getName();
                boolean there = lines.stream().anyMatch(line -> line.contains("`" + name + "`"));
                Check.due("README.md names " + name, there, true);
            }
        }
        Check.end();
    }

    private static String answer(GateBox box, String name, String given) throws ReflectiveOperationException {
        String[] words = given.isEmpty() ? new String[0] : given.split(", ");
        Object[] numbers = new Object[words.length];
        for (int i = 0; i < words.length; i++) {
            numbers[i] = words[i].equals("GateBox.NONE") ? GateBox.NONE : Integer.parseInt(words[i]);
        }
        for (Method m : GateBox.class.getMethods()) {
            if (m.getName().equals(name) && m.getParameterCount() == numbers.length) {
                try {
                    return String.valueOf(m.invoke(box, numbers));
                } catch (InvocationTargetException e) {
                    return e.getCause().toString();
                }
            }
        }
        return "no such call";
    }
}
