import java.io.IOException;
import java.nio.file.Files;
import java.nio.file.Path;
import java.util.LinkedHashMap;
import java.util.List;
import java.util.Map;
import java.util.Set;

/**
 * The sentences of the document, each behind the name of its section, and which of them a test names. Parts
 * between semicolons count as sentences, and so does each line of a promise.
 */
final class Sentences {
    private static final Path DOCUMENT = Path.of("../shared/DOC.md");
    private static final String FIRST_TO_TEST = "What it is";
    private static final String FIRST_NOT_TO_TEST = "Not promised";
    private static final Set<String> NOTHING_TO_TEST = Set.of("Streams, units", "what later calls answer is free.");

    private static final Map<String, Boolean> MUST_BE_NAMED = new LinkedHashMap<>();
    private static final Map<String, Boolean> NAMED = new LinkedHashMap<>();

    private Sentences() {
    }

    /** The test that begins here is one of this sentence. */
    static void test(String sentence) {
        NAMED.put(sentence, true);
        Check.about(sentence);
    }

    /** Compares the sentences that tests name with those of the document. */
    static void end() throws IOException {
        Check.about("The sentences that tests name");
        if (!Files.exists(DOCUMENT)) {
            System.out.println("without " + DOCUMENT + ", the names of the sentences are not compared");
            return;
        }
        read(Files.readAllLines(DOCUMENT));
        for (String sentence : NAMED.keySet()) {
            if (!MUST_BE_NAMED.containsKey(sentence)) {
                Check.report("the document has no sentence '" + sentence + "'");
            }
        }
        for (Map.Entry<String, Boolean> entry : MUST_BE_NAMED.entrySet()) {
            if (entry.getValue() && !NAMED.containsKey(entry.getKey())) {
                Check.report("no test names the sentence '" + entry.getKey() + "'");
            }
        }
    }

    private static void read(List<String> lines) {
        String section = "";
        boolean must = false;
        boolean code = false;
        for (String line : lines) {
            if (line.startsWith("```")) {
                code = !code;
            } else if (line.startsWith("#")) {
                section = line.replaceAll("^#+ ", "").replaceAll(":.*", "");
                must = (must || section.equals(FIRST_TO_TEST)) && !section.equals(FIRST_NOT_TO_TEST);
            } else if (!code && !line.startsWith("Ahead of the calls")) {
                readLine(section, line, must);
            }
        }
    }

    private static void readLine(String section, String line, boolean must) {
        boolean isSignature = line.matches("`[^`]*\\(.*");
        String words = isSignature ? line.replaceAll("^`[^`]*`: ", "") : line.replaceAll("^- ", "");
        for (String part : words.trim().split("(?<=[.;]) ")) {
            if (!part.isEmpty()) {
                boolean mustThis = must && !NOTHING_TO_TEST.contains(part);
                MUST_BE_NAMED.merge(section + ": " + part, mustThis, Boolean::logicalOr);
            }
        }
    }
}
