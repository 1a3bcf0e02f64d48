import java.io.IOException;
import java.lang.reflect.Method;
import java.nio.file.Files;
import java.nio.file.Path;
import java.util.HashMap;
import java.util.HashSet;
import java.util.List;
import java.util.Map;
import java.util.Set;
import java.util.regex.Matcher;
import java.util.regex.Pattern;

/** README.md's run of calls answers what it says, and its table names each method; it runs in the project's folder. */
public final class ReadmeTest {
    private static final Path README = Path.of("README.md");
    private static final Pattern CALL = Pattern.compile("tower\\.(\\w+)\\((.*?)\\); +// answers (-?\\d+)\\b.*");

    private static Map<String, Method> face() {
        Map<String, Method> face = new HashMap<>();
        for (Method method : BellController.class.getMethods()) {
            if (method.getDeclaringClass() == BellController.class) {
                face.put(method.getName(), method);
            }
        }
        return face;
    }

    private static int answer(BellController tower, Method method, String words) throws ReflectiveOperationException {
        String[] parts = words.isEmpty() ? new String[0] : words.split(", ");
        Object[] arguments = new Object[parts.length];
        for (int i = 0; i < parts.length; i++) {
            arguments[i] = Integer.decode(parts[i]);
        }
        return (int) method.invoke(tower, arguments);
    }

    private static void run(List<String> lines, Map<String, Method> face) throws ReflectiveOperationException {
        BellController tower = new BellController();
        int calls = 0;
        for (String line : lines) {
            Matcher call = CALL.matcher(line);
            if (call.matches()) {
                Check.due(line, answer(tower, face.get(call.group(1)), call.group(2)), Integer.parseInt(call.group(3)));
                calls++;
            } else {
                Check.holds("an answer stands behind " + line, !line.startsWith("tower."));
            }
        }
        Check.holds("the run is found", calls > 20);
    }

    private static void table(List<String> lines, Set<String> names) {
        Set<String> named = new HashSet<>();
        for (String line : lines) {
            Matcher words = Pattern.compile("`(\\w+)`").matcher(line);
            while (line.startsWith("|") && words.find()) {
                Check.holds(words.group(1) + " stands once in the table", named.add(words.group(1)));
            }
        }
        Check.holds("the table names " + names + ", not " + named, named.equals(names));
    }

    public static void main(String[] args) throws IOException, ReflectiveOperationException {
        List<String> lines = Files.readAllLines(README);
        Map<String, Method> face = face();
        run(lines, face);
        table(lines, face.keySet());
        Check.end();
    }
}
