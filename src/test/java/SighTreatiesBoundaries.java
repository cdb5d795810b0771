import java.io.IOException;
import java.nio.file.Files;
import java.nio.file.Path;
import java.util.ArrayList;
import java.util.List;
import java.util.Map;
import java.util.TreeMap;
import java.util.regex.Pattern;

/**
 * A test for each sentence of ../shared/DOC.md that names a boundary case. The tests stand in src/test/boundaries; each
 * of them quotes its sentence. Here they are run, and the document is searched for sentences that have none.
 */
public final class SighTreatiesBoundaries {
    private static final Path DOCUMENT = Path.of("../shared/DOC.md");
    private static final String FIRST_SECTION = "## Terms";
    /** Stands ahead of the terms, and counts as one of them. */
    private static final String HOW_MANY_CALLS = "An object is used for at most 512 calls";
    private static final String LAST_SECTION = "## Not promised";

    /** Sentences that only say in other words what the method answers, without a boundary of their own. */
    private static final List<String> PLAIN = List.of("Snapshots, undo", "Ahead of the calls .*", "(Adds|Creates) a clause;.*",
        "Changes .*", "Records a clause .*", "Mixes a reel .*", "A state signs .*", "Appends a character .*",
        "Returns how many (states|clauses) .*", "Returns the (reel|state|sigh|session|stamina|strength|frames in) .*",
        "Returns for how many frames .*", "Tells (whether|how many hundredths|the first reason) .*",
        "Returns how many (frames of a translation|clauses|signatures a|translations) .*", "Returns by how many frames .*",
        "Returns the number of the session.", "Finds the (tongue|state) .*", "Returns how well .*",
        "Returns how (many|often).", "Returns the (frames|sessions|clauses|hash|tongue|state).", "There are two slots;.*");

    private static final Map<Integer, List<String>> SENTENCES = new TreeMap<>();

    private SighTreatiesBoundaries() {
    }

    private static void readDocument() throws IOException {
        int promise = -1;
        for (String line : Files.readAllLines(DOCUMENT)) {
            if (line.equals(FIRST_SECTION)) {
                promise = Boundary.TERMS;
            } else if (line.startsWith("## Promise ")) {
                promise = Integer.parseInt(line.substring(11, line.indexOf(':')));
            } else if (line.equals(LAST_SECTION)) {
                return;
            }
            if (promise < 0 && line.startsWith(HOW_MANY_CALLS)) {
                addSentences(Boundary.TERMS, line);
            }
            if (promise >= 0 && !line.startsWith("#")) {
                addSentences(promise, line);
            }
        }
    }

    private static void addSentences(int promise, String line) {
        List<String> sentences = SENTENCES.computeIfAbsent(promise, number -> new ArrayList<>());
        if (line.startsWith("- `") || line.startsWith("Throws ")) {
            sentences.add(line);
            return;
        }
        for (String sentence : line.replaceFirst("^`[^`]*`: ", "").split("(?<=\\.) ")) {
            if (!sentence.isEmpty()) {
                sentences.add(sentence);
            }
        }
    }

    /** Whoever renames a sentence of the document, or quotes it wrongly, hears of it. */
    private static void testQuotes() {
        for (Boundary.Quote quote : Boundary.quotes()) {
            List<String> own = SENTENCES.getOrDefault(quote.promise, List.of());
            boolean isThere = own.stream().anyMatch(sentence -> sentence.contains(quote.text));
            if (!isThere) {
                Boundary.fault("promise " + quote.promise + " does not say \"" + quote.text + "\"");
            }
        }
    }

    private static void testSentences() {
        SENTENCES.forEach((promise, sentences) -> {
            for (String sentence : sentences) {
                boolean isQuoted = Boundary.quotes().stream()
                    .anyMatch(quote -> quote.promise == promise && sentence.contains(quote.text));
                if (!isQuoted && !isPlain(sentence)) {
                    Boundary.fault("promise " + promise + " has no test of \"" + sentence + "\"");
                }
            }
        });
    }

    private static boolean isPlain(String sentence) {
        return sentence.equals("- `clause`: the number of the clause")
            || PLAIN.stream().anyMatch(plain -> Pattern.matches(plain, sentence));
    }

    public static void main(String[] args) throws IOException {
        readDocument();
        TermsBoundaries.tests();
        ClauseBoundaries.tests();
        VoiceBoundaries.tests();
        TextBoundaries.tests();
        SnapshotBoundaries.tests();
        QuestionBoundaries.tests();
        TreatyBoundaries.tests();
        DigestBoundaries.tests();
        BesideBoundaries.tests();
        Boundary.endOfTests();
        testQuotes();
        testSentences();
        int wrong = Boundary.wrongOnes();
        System.out.println(wrong == 0 ? Boundary.quotes().size() + " tests of boundaries hold" : wrong + " faults");
        if (wrong != 0) {
            System.exit(1);
        }
    }
}
