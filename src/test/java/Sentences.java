import java.io.IOException;
import java.nio.file.Files;
import java.nio.file.Path;
import java.util.ArrayList;
import java.util.HashMap;
import java.util.List;
import java.util.Map;

/** Tests of single sentences of the document. Each is quoted, with the heading that it stands below. */
final class Sentences {
    private static final int PROMISES = 28;
    private static final List<String[]> QUOTES = new ArrayList<>();

    private Sentences() {
    }

    /** Runs the test that would fail if the sentence was broken. */
    static void holds(String heading, String sentence, Runnable test) {
        QUOTES.add(new String[] {heading, sentence});
        Check.by(heading + ": " + sentence);
        int before = Check.answers();
        try {
            test.run();
        } catch (RuntimeException thrown) {
            // The other sentences are still to be tested.
            Check.holds("no exception, not " + thrown, false);
        }
        Check.holds("a test compares something", Check.answers() > before);
        Check.by("");
    }

    /** A quote that the document does not have would be a promise of the test's own. */
    static void areOfTheDocument(Path document) throws IOException {
        if (!Files.isReadable(document)) {
            System.out.println("no document at " + document + ": its quotes are not compared");
            return;
        }
        Map<String, String> parts = partsOf(Files.readString(document));
        for (String[] quote : QUOTES) {
            Check.holds("the document says below '" + quote[0] + "': " + quote[1],
                    parts.getOrDefault(quote[0], "").contains(quote[1]));
        }
        for (int promise = 1; promise <= PROMISES; promise++) {
            String heading = "Promise " + promise;
            Check.holds(heading + " has a sentence of its own",
                    QUOTES.stream().anyMatch(quote -> quote[0].equals(heading)));
        }
    }

    /** The text below each heading, with single spaces in place of all others and of line ends. */
    private static Map<String, String> partsOf(String document) {
        Map<String, String> parts = new HashMap<>();
        String heading = "";
        for (String line : document.split("\n")) {
            // The document's heading of the log has no "#".
            if (line.startsWith("#") || line.equals("Log, corrections")) {
                heading = line.replaceFirst("^#+ *", "").replaceFirst("^(Promise \\d+):.*", "$1");
            } else {
                parts.merge(heading, line, (above, below) -> (above + " " + below).replaceAll("\\s+", " "));
            }
        }
        return parts;
    }
}
