import java.io.IOException;
import java.nio.file.Files;
import java.nio.file.Path;
import java.util.ArrayList;
import java.util.LinkedHashSet;
import java.util.List;
import java.util.Set;
import java.util.regex.Matcher;
import java.util.regex.Pattern;

/**
 * The document's sentences (parts behind a ";" and lines of parameters are sentences of their own), and which of
 * them a test has taken up. It runs in the project's folder, as ../shared is found from there. Where the document
 * isn't at hand, the tests are run all the same, but their words can't be compared with it.
 */
final class Doc {
    private static final Path DOCUMENT = Path.of("..", "shared", "DOC.md");

    /** What marks a sentence that names a boundary: a number, a constant, or one of these words. */
    private static final Pattern BOUNDARY = Pattern.compile("\\d|[A-Z]{4}|\\b(not|none|all|any|only|first|empty"
            + "|missing|earliest|smallest|largest|greatest|latest|already|rounded|truncates|without|order|ignored"
            + "|lowest|remains|negative|exist|includ(ed|ing)|before|after)\\b");

    private static final Set<String> SENTENCES = new LinkedHashSet<>();
    private static final Set<String> TAKEN = new LinkedHashSet<>();

    private Doc() { }

    /** Runs the test of a sentence, which must stand in the document word for word. */
    static void says(String place, String words, Runnable test) {
        String sentence = place + ": " + words;
        Check.holds("the document says in " + sentence, !isAtHand() || SENTENCES.contains(sentence));
        Check.holds("one test alone for " + sentence, TAKEN.add(sentence));
        test.run();
    }

    /** Each sentence with a boundary must have been taken up by a test. */
    static void allTaken() {
        if (!isAtHand()) {
            System.out.println("no document at " + DOCUMENT.toAbsolutePath() + ": its sentences are not compared");
            return;
        }
        int boundaries = 0;
        for (String sentence : SENTENCES) {
            String words = sentence.substring(sentence.indexOf(": ") + 2).replaceAll("\\(section \\d\\)", "");
            boolean boundary = BOUNDARY.matcher(words).find();
            boundaries += boundary ? 1 : 0;
            Check.holds("a test for " + sentence, !boundary || TAKEN.contains(sentence));
        }
        Check.holds("the document is read whole", boundaries > 200);
        System.out.println(boundaries + " sentences with boundaries, " + TAKEN.size() + " sentences tested");
    }

    private static boolean isAtHand() {
        if (SENTENCES.isEmpty() && Files.exists(DOCUMENT)) {
            try {
                collect(Files.readAllLines(DOCUMENT));
            } catch (IOException e) {
                throw new IllegalStateException(DOCUMENT + " cannot be read", e);
            }
        }
        return !SENTENCES.isEmpty();
    }

    private static void collect(List<String> lines) {
        Pattern promise = Pattern.compile("## Promise (\\d+): .*");
        Pattern section = Pattern.compile("(\\d)\\. [A-Z ,]+");
        String place = "";
        for (String line : lines) {
            Matcher ofPromise = promise.matcher(line);
            Matcher ofSection = section.matcher(line);
            if (ofPromise.matches()) {
                place = "promise " + ofPromise.group(1);
            } else if (ofSection.matches()) {
                place = "section " + ofSection.group(1);
            } else if (line.startsWith("## ") || line.startsWith("Examples")) {
                place = "";
            } else if (!place.isEmpty() && !line.isBlank() && !line.matches("(`|----|  ).*")) {
                for (String words : split(line)) {
                    SENTENCES.add(place + ": " + words);
                }
            }
        }
    }

    private static List<String> split(String line) {
        List<String> parts = new ArrayList<>();
        for (String part : line.split("(?<=[.;]) ")) {
            parts.add(part.replaceAll("[.;:]$", ""));
        }
        return parts;
    }
}
