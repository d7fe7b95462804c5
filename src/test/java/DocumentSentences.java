import java.io.IOException;
import java.nio.file.Files;
import java.nio.file.Path;
import java.util.ArrayList;
import java.util.LinkedHashMap;
import java.util.List;
import java.util.Map;
import java.util.Set;

/**
 * Holds the tests of the sentences to the document itself: what they quote stands there, in the
 * promise that they name, and no sentence is left out but those below, which name no boundary.
 */
final class DocumentSentences {
    private static final Path DOCUMENT = Path.of("..", "shared", "DOC.md");
    private static final String PROMISE = "## Promise ";
    private static final int PROMISES = 58;
    private static final Set<String> WITHOUT_BOUNDARY = Set.of(
            "Setup text.", "Days and years.", "Trains.", "Backlash.", "The constants:",
            "The constructor and the methods follow, a promise each: the signature, then what it does.",
            "- `body`: number of a body", "- `other`: number of a body", "- `length`: new length",
            "Returns a property of a body.", "Returns the property.", "Returns a property of a part of a train.",
            "Returns the number.", "Returns the number of teeth.", "Returns the day.", "Returns the year.",
            "Returns the error.", "Returns the angle.", "Returns number of the body.", "Returns the sum.",
            "Returns the greatest difference.", "Returns the backlash.", "Returns the lag.", "Returns the quotient.",
            "Returns the number of gears.", "Returns the number of days of a year.",
            "Returns the error of a pointer by a day.", "Returns the backlash of a pointer.",
            "Returns the lag of a pointer.", "Returns the numerator of the ratio of a body in lowest terms.",
            "Returns the body at a place of the order of errors (as absolute values) at the end of a year.",
            "Returns a convergent of the continued fraction of the absolute value of 100 / period of a body.",
            "Returns the number of turns.", "Returns the number of years.", "Sets the slack.",
            "Turns the crank to a day.", "Returns a byte of the output.",
            "Returns the day at which the crank stands.");

    private DocumentSentences() {
    }

    static void all() {
        if (!Files.isReadable(DOCUMENT)) {
            System.out.println("no document at " + DOCUMENT + ": its sentences are not looked for");
            return;
        }
        try {
            Map<Integer, List<String>> sentences = sentences(Files.readAllLines(DOCUMENT));
            Check.equal("promises of the document", sentences.size(), PROMISES + 1);
            for (Sentence test : Sentence.tested()) {
                String text = String.join(" ", sentences.getOrDefault(test.promise, List.of()));
                for (String quote : test.quotes) {
                    Check.isTrue("promise " + test.promise + " says \"" + quote + "\"", text.contains(quote));
                }
            }
            sentences.forEach(DocumentSentences::isTested);
        } catch (IOException e) {
            Check.fail("the document cannot be read: " + e);
        }
    }

    private static void isTested(int promise, List<String> sentences) {
        boolean any = false;
        for (String sentence : sentences) {
            boolean tested = isTested(promise, sentence);
            any |= tested;
            Check.isTrue("promise " + promise + ": \"" + sentence + "\" has a test",
                    tested || WITHOUT_BOUNDARY.contains(sentence));
        }
        Check.isTrue("promise " + promise + " has a test", any);
    }

    private static boolean isTested(int promise, String sentence) {
        for (Sentence test : Sentence.tested()) {
            for (String quote : test.quotes) {
                if (test.promise == promise && (sentence.contains(quote) || quote.contains(sentence))) {
                    return true;
                }
            }
        }
        return false;
    }

    /** The sentences of each promise, its signature left out; those of the description have the number 0. */
    private static Map<Integer, List<String>> sentences(List<String> lines) {
        Map<Integer, List<String>> sentences = new LinkedHashMap<>();
        List<String> before = new ArrayList<>();
        List<String> here = null;
        for (String line : lines) {
            if (line.startsWith("## ")) {
                here = line.equals("## Description") || line.startsWith(PROMISE) ? new ArrayList<>() : null;
                if (here != null) {
                    sentences.put(line.startsWith(PROMISE) ? numberOf(line) : Sentence.DESCRIPTION, here);
                    here.addAll(before);
                    before.clear();
                }
            } else if (line.startsWith("An object is used")) {
                before.add(line);
            } else if (here != null && !line.isBlank() && !line.matches("`.*`")) {
                here.addAll(List.of(line.strip().split("(?<=\\.)\\s+")));
            }
        }
        return sentences;
    }

    private static int numberOf(String line) {
        return Integer.parseInt(line.substring(PROMISE.length(), line.indexOf(':')));
    }
}
