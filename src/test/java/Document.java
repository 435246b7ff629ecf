import java.io.IOException;
import java.nio.file.Files;
import java.nio.file.Path;
import java.util.ArrayList;
import java.util.BitSet;
import java.util.LinkedHashMap;
import java.util.List;
import java.util.Map;
import java.util.Set;

/**
 * The document, section by section, and which of its words have a test of their own. Each test quotes
 * the words that it is about; in the end, each sentence must have been quoted, in whole or in part,
 * but those that tell nothing that a call could answer.
 */
final class Document {
    private static final Path FILE = Path.of("..", "shared", "DOC.md");

    /** Sections that tell no behaviour; FaceTest looks at the public face. */
    private static final Set<String> NOT_LOOKED_AT =
            Set.of("OrielChart", "The public face", "Not promised");

    private static final Set<String> NOTHING_TO_TEST = Set.of(
            "A visualiser for programs.",
            "what later calls answer is free.",
            "Its calls:",
            "code is written and changed, instruction by instruction;",
            "it is parted into blocks;",
            "who dominates whom, which blocks are in which loops, which variables live where is told;",
            "the graph is reduced to regions as long as it goes;",
            "and it is drawn in layers, with long edges bent, orders that are improved sweep by sweep,"
                    + " crossings counted, and routes told point by point.",
            "All numbers are whole, if nothing else is said.",
            "an INSTRUCTION", "the INSTRUCTION", "a BLOCK", "an EDGE", "a LAYER", "a step", "how many");

    private final Map<String, String> sections = new LinkedHashMap<>();
    private final Map<String, List<String>> quotes = new LinkedHashMap<>();

    Document() throws IOException {
        String section = "";
        for (String line : isThere() ? Files.readAllLines(FILE) : List.<String>of()) {
            if (line.startsWith("#") || line.startsWith("== ")) {
                section = line.replaceAll("^[#=]+ ", "").replaceAll("^(Promise \\d+):.*", "$1");
            } else if (!line.isBlank()) {
                sections.merge(section, line.strip(), (a, b) -> a + "\n" + b);
            }
        }
    }

    /** Without the document, the sentences are tested all the same, but nothing is compared. */
    private static boolean isThere() {
        return Files.exists(FILE);
    }

    /** Tests these words, which stand in that section; what the test throws stops no other one. */
    void says(String section, String quoted, Check.Call test) {
        Check.isAbout(section + ": " + quoted);
        if (isThere() && !sections.getOrDefault(section, "").contains(quoted)) {
            Check.miss("does not stand in the document");
        }
        quotes.computeIfAbsent(section, s -> new ArrayList<>()).add(quoted);
        int madeBefore = Check.madeSoFar();
        run(test);
        if (Check.madeSoFar() == madeBefore) {
            Check.miss("has no check");
        }
        Check.isAbout("");
    }

    /** Runs some tests, each of some sentences. */
    void test(Check.Call... tests) {
        for (Check.Call test : tests) {
            run(test);
        }
    }

    private static void run(Check.Call test) {
        try {
            test.run();
        } catch (RuntimeException e) {
            Check.miss("throws " + e + " at " + e.getStackTrace()[0]);
        }
    }

    /** Each sentence of the document must have been quoted, in whole or in part. */
    void close() {
        for (String section : sections.keySet()) {
            if (!NOT_LOOKED_AT.contains(section)) {
                lookFor(section, sections.get(section));
            }
        }
    }

    private void lookFor(String section, String text) {
        BitSet quoted = new BitSet();
        for (String quote : quotes.getOrDefault(section, List.of())) {
            for (int i = text.indexOf(quote); i >= 0; i = text.indexOf(quote, i + 1)) {
                quoted.set(i, i + quote.length());
            }
        }
        int begin = 0;
        for (String sentence : text.split("\n|(?<=[.:;]) +")) {
            begin = text.indexOf(sentence, begin);
            if (quoted.get(begin, begin + sentence.length()).isEmpty() && tells(sentence)) {
                Check.miss("no test of its own has, in " + section + ": " + sentence);
            }
            begin += sentence.length();
        }
    }

    private static boolean tells(String sentence) {
        boolean isHeading = sentence.startsWith("`") || sentence.startsWith("- `");
        boolean isComment = sentence.startsWith("Ahead of the calls") || sentence.startsWith("----");
        return !isHeading && !isComment && !NOTHING_TO_TEST.contains(sentence);
    }
}
