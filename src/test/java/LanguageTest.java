import java.io.IOException;
import java.nio.file.Files;
import java.nio.file.Path;
import java.util.ArrayList;
import java.util.HashMap;
import java.util.LinkedHashSet;
import java.util.List;
import java.util.Map;
import java.util.Set;
import java.util.regex.Matcher;
import java.util.regex.Pattern;

/** What the text of the class shows of ../shared/LANGUAGE.md; it runs in the project's folder. */
public final class LanguageTest {
    private static final Path SOURCE = Path.of("src", "main", "java", "BellController.java");

    private static final String[] FORBIDDEN = {
        "\\bthrows?\\b", "\\btry\\b", "\\bcatch\\b", "\\bfinally\\b", "\\bsynchronized\\b", "\\bassert\\b",
        "\\bimport\\b", "\\bpackage\\b", "\\bprotected\\b", "\\bvolatile\\b", "\\bnative\\b", "\\binstanceof\\b",
        "->", "::", "\"", "@", "\\bjava\\.", "\\bfloat\\b", "\\bdouble\\b", "Exact\\b", "\\bInteger\\.M",
        "\\b(equals|hashCode|toString|getClass|nanoTime|currentTimeMillis|random|exit|out|err)\\b",
        "\\b(Thread|Runtime|Random|Object|Exception|Error|String|StringBuilder)\\b", "\\bvar\\b", "\\[\\]\\s*\\[",
        "\\bstatic\\s*\\{", "\\bwhile\\s*\\(\\s*true", "for\\s*\\(\\s*;\\s*;"
    };

    /** All that is used of the library. */
    private static final String LIBRARY = "(Math\\.(max|min|abs)|Integer\\.bitCount|System\\.arraycopy)\\(";

    private static String withoutComments(String text) {
        return text.replaceAll("(?s)/\\*.*?\\*/", "").replaceAll("//[^\n]*", "").replaceAll("'[^']'", "0");
    }

    private static void words(String code) {
        for (String word : FORBIDDEN) {
            Matcher found = Pattern.compile(word).matcher(code);
            Check.holds("the class is without " + word, !found.find());
        }
        Matcher calls = Pattern.compile("\\b(Math|Integer|System|Long|Arrays)\\b").matcher(code);
        while (calls.find()) {
            Check.holds("the library's " + code.substring(calls.start(), calls.start() + 20).trim(),
                    code.substring(calls.start()).matches("(?s)" + LIBRARY + ".*"));
        }
    }

    private static void signs(String text) {
        Check.holds("all signs are 1 to 127", text.chars().allMatch(sign -> sign > 0 && sign < 128));
    }

    private static final Pattern HEAD = Pattern.compile(
            "(?m)^( +)(public|private|static|boolean|int|void)[^;={}(]*?(\\w+)\\(([^)]*)\\) \\{$");

    /** Methods of some sixty lines with at most seven parameters, which make nothing; the names that each calls. */
    private static Map<String, Set<String>> methods(String code) {
        Map<String, Set<String>> calls = new HashMap<>();
        Matcher heads = HEAD.matcher(code);
        while (heads.find()) {
            String rest = code.substring(heads.start());
            String method = rest.substring(0, rest.indexOf("\n" + heads.group(1) + "}\n"));
            String name = heads.group(3);
            Check.holds("a short method: " + name, method.lines().count() <= 60);
            Check.holds("few parameters: " + name, heads.group(4).split(",").length <= 7);
            Check.holds("only the constructor makes objects: " + name,
                    name.equals("BellController") || !Pattern.compile("\\bnew\\b").matcher(method).find());
            String body = method.substring(heads.group().length());
            calls.computeIfAbsent(name, key -> new LinkedHashSet<>()).addAll(called(body));
        }
        Check.holds("the methods are found", calls.size() > 60);
        return calls;
    }

    private static Set<String> called(String body) {
        Set<String> names = new LinkedHashSet<>();
        Matcher call = Pattern.compile("\\b(\\w+)\\(").matcher(body);
        while (call.find()) {
            names.add(call.group(1));
        }
        return names;
    }

    /** The longest chain of calls below a name, the library's included; one of more than 20 has no end. */
    private static List<String> chain(Map<String, Set<String>> calls, String name, int level) {
        List<String> longest = List.of();
        for (String next : level > 20 ? Set.<String>of() : calls.getOrDefault(name, Set.of())) {
            List<String> below = chain(calls, next, level + 1);
            longest = below.size() > longest.size() ? below : longest;
        }
        List<String> whole = new ArrayList<>(List.of(name));
        whole.addAll(longest);
        return whole;
    }

    private static void depth(Map<String, Set<String>> calls) {
        int deepest = 0;
        for (String name : calls.keySet()) {
            List<String> chain = chain(calls, name, 1);
            Check.holds("calls go at most eight deep: " + chain, chain.size() <= 8);
            deepest = Math.max(deepest, chain.size());
        }
        Check.holds("the calls are found", deepest > 4);
    }

    private static void classes(String code) {
        Matcher classes = Pattern.compile("\\bclass\\b").matcher(code);
        int count = 0;
        while (classes.find()) {
            count++;
        }
        Check.holds("at most some twelve classes", count <= 12);
        Check.holds("one public class", code.split("\\bpublic final class\\b").length == 2);
    }

    public static void main(String[] args) throws IOException {
        String text = Files.readString(SOURCE);
        String code = withoutComments(text);
        signs(text);
        words(code);
        depth(methods(code));
        classes(code);
        Check.end();
    }
}
