import java.io.IOException;
import java.nio.file.Files;
import java.nio.file.Path;
import java.util.ArrayList;
import java.util.LinkedHashSet;
import java.util.List;
import java.util.Set;
import java.util.TreeSet;

/**
 * Runs the tests of the document's sentences. Each one is told with the part of the document (a promise,
 * or the terms) and the sentence that it is for, and that is said ahead of whatever is wrong. At the end
 * it is looked up that the sentences stand in the document so, and that none of it is without a test.
 */
final class Sentences {
    private static final Path DOCUMENT = Path.of("..", "shared", "DOC.md");
    private static final Set<String> tested = new LinkedHashSet<>();

    private Sentences() {
    }

    static void test(String part, String sentence, Runnable... tests) {
        Checks.about(part + ", \"" + sentence + "\"");
        Checks.holds("that it is told once", tested.add(part + ": " + sentence));
        for (Runnable one : tests) {
            int before = Checks.made();
            try {
                one.run();
            } catch (RuntimeException e) {
                Checks.holds("that no call throws unasked, as here " + e, false);
            }
            Checks.holds("that something is tested", Checks.made() > before);
        }
    }

    static void allAreTested() {
        Checks.about("all sentences");
        Set<String> written = written();
        Set<String> untested = new TreeSet<>(written);
        untested.removeAll(tested);
        Checks.holds("that each sentence of the document has a test, but for " + untested, untested.isEmpty());
        Set<String> unwritten = new TreeSet<>(tested);
        unwritten.removeAll(written);
        Checks.holds("that each test is for a sentence of the document, but for " + unwritten, unwritten.isEmpty());
    }

    private static Set<String> written() {
        Set<String> found = new LinkedHashSet<>();
        String part = "";
        for (String line : lines()) {
            if (line.startsWith("## ")) {
                part = line.substring(3).replaceFirst(":.*", "");
            } else if (part.equals("What it is") || part.equals("Terms") || part.startsWith("Promise ")) {
                for (String sentence : sentencesOf(line)) {
                    found.add(part + ": " + sentence);
                }
            }
        }
        return found;
    }

    private static List<String> lines() {
        try {
            return Files.readAllLines(DOCUMENT);
        } catch (IOException e) {
            Checks.holds("that the document can be read, as " + e, false);
            return List.of();
        }
    }

    private static List<String> sentencesOf(String line) {
        List<String> found = new ArrayList<>();
        // A method's head, told ahead of what it does, is for FaceTest.
        String words = line.replaceFirst("^`[^`]*\\([^`]*`: ", "");
        for (String sentence : words.split("(?<=\\.\\)?) (?=[A-Z(])")) {
            if (!isWithoutABoundary(sentence)) {
                found.add(sentence);
            }
        }
        return found;
    }

    /** What names nothing that a call could show: titles, and arguments told without a number. */
    private static boolean isWithoutABoundary(String sentence) {
        return sentence.isBlank()
            || sentence.startsWith("A planner for a year of lessons:")
            || sentence.startsWith("Ahead of the calls ")
            || sentence.equals("Aims.") || sentence.equals("The order of the aims.") || sentence.equals("The plan.")
            || sentence.startsWith("- ") && !sentence.matches(".*[0-9].*");
    }
}
