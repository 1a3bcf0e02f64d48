import java.io.IOException;
import java.nio.file.Files;
import java.nio.file.Path;
import java.util.ArrayList;
import java.util.List;
import java.util.regex.Matcher;
import java.util.regex.Pattern;

/** What the text of the class shows of ../shared/LANGUAGE.md; it runs in the project's folder. */
public final class LanguageTest {
    private static final Path SOURCE = Path.of("src", "main", "java", "BellController.java");

    private static final String[] FORBIDDEN = {
        "\\bthrows?\\b", "\\btry\\b", "\\bcatch\\b", "\\bfinally\\b", "\\bsynchronized\\b", "\\bassert\\b",
        "\\bimport\\b", "\\bpackage\\b", "\\bprotected\\b", "\\bvolatile\\b", "\\bnative\\b", "\\binstanceof\\b",
        "->", "::", "\"", "@", "\\bjava\\.", "\\bfloat\\b", "\\bdouble\\b", "Exact\\b", "\\bInteger\\.M",
        "\\b(equals|hashCode|toString|getClass|nanoTime|currentTimeMillis|random|exit|out|err)\\b",
        "\\b(Thread|Runtime|Random|Object|Exception|Error|String|StringBuilder)\\b", "\\bvar\\b", "\\[\\]\\s*\\[",
        "\\bstatic\\s*\\{", "\\bwhile\\s*\\(\\s*true", "for\\s*\\(\\s*;\\s*;"
    };

    /** All that is used of the library. */
    private static final String LIBRARY = "(Math\\.(max|min|abs)|Integer\\.bitCount|System\\.arraycopy)\\(";

    private static String withoutComments(String text) {
        return text.replaceAll("(?s)/\\*.*?\\*/", "").replaceAll("//[^\n]*", "").replaceAll("'[^']'", "0");
    }

    private static void words(String code) {
        for (String word : FORBIDDEN) {
            Matcher found = Pattern.compile(word).matcher(code);
            Check.holds("the class is without " + word, !found.find());
        }
        Matcher calls = Pattern.compile("\\b(Math|Integer|System|Long|Arrays)\\b").matcher(code);
        while (calls.find()) {
            Check.holds("the library's " + code.substring(calls.start(), calls.start() + 20).trim(),
                    code.substring(calls.start()).matches("(?s)" + LIBRARY + ".*"));
        }
    }

    private static void signs(String text) {
        Check.holds("all signs are 1 to 127", text.chars().allMatch(sign -> sign > 0 && sign < 128));
    }

    /** Methods of some sixty lines with at most seven parameters. */
    private static void methods(String code) {
        Pattern head = Pattern.compile("(?m)^( +)(public|private|static|boolean|int|void)[^;={}]*\\(([^)]*)\\) \\{$");
        Matcher heads = head.matcher(code);
        List<Integer> lengths = new ArrayList<>();
        while (heads.find()) {
            String rest = code.substring(heads.start());
            int end = rest.indexOf("\n" + heads.group(1) + "}\n");
            int lines = (int) rest.substring(0, end).lines().count();
            lengths.add(lines);
            Check.holds("a short method: " + heads.group().trim(), lines <= 60);
            Check.holds("few parameters: " + heads.group().trim(), heads.group(3).split(",").length <= 7);
        }
        Check.holds("the methods are found", lengths.size() > 60);
    }

    private static void classes(String code) {
        Matcher classes = Pattern.compile("\\bclass\\b").matcher(code);
        int count = 0;
        while (classes.find()) {
            count++;
        }
        Check.holds("at most some twelve classes", count <= 12);
        Check.holds("one public class", code.split("\\bpublic final class\\b").length == 2);
    }

    public static void main(String[] args) throws IOException {
        String text = Files.readString(SOURCE);
        String code = withoutComments(text);
        signs(text);
        words(code);
        methods(code);
        classes(code);
        Check.end();
    }
}
