import java.io.IOException;
import java.nio.file.Files;
import java.nio.file.Path;
import java.util.ArrayList;
import java.util.LinkedHashMap;
import java.util.List;
import java.util.Map;
import java.util.Set;
import java.util.TreeSet;
import java.util.regex.Matcher;
import java.util.regex.Pattern;

/** The tables that tell which test holds which sentence of the document. */
final class TablesTest {
    private static final Pattern NAME_OF_A_TEST = Pattern.compile("(\\w+Test)\\.(\\w+)");
    private static final Path EDGES = Path.of("src/test/EDGES.md");
    private static final Path SENTENCES = Path.of("src/test/SENTENCES.md");
    /** The one sentence that no test can hold. */
    private static final String PROMISES_NOTHING = "This class is not thread-safe.";

    private TablesTest() {
    }

    private static Set<String> testsThatAreThere() {
        Set<String> there = new TreeSet<>();
        for (Class<?> tests : AllTests.CLASSES) {
            AllTests.testsOf(tests).forEach(test -> there.add(AllTests.nameOf(test)));
        }
        return there;
    }

    private static Set<String> testsNamedIn(Path table) throws IOException {
        Set<String> named = new TreeSet<>();
        Matcher matcher = NAME_OF_A_TEST.matcher(Files.readString(table));
        while (matcher.find()) {
            named.add(matcher.group());
        }
        return named;
    }

    static void tableOfEdgesNamesEachTestOfAnEdge() throws IOException {
        Set<String> edges = testsThatAreThere();
        edges.removeIf(name -> !name.startsWith("EdgesOf"));
        edges.removeAll(testsNamedIn(EDGES));
        Check.same("tests that the table leaves out", edges, Set.of());
    }

    static void tableOfEdgesNamesTestsThatAreThere() throws IOException {
        Set<String> named = testsNamedIn(EDGES);
        named.removeAll(testsThatAreThere());
        Check.same("tests that are not there", named, Set.of());
    }

    static void tableOfSentencesNamesTestsThatAreThere() throws IOException {
        Set<String> named = testsNamedIn(SENTENCES);
        named.removeAll(testsThatAreThere());
        Check.same("tests that are not there", named, Set.of());
    }

    /** The sentences of the Terms, without the names of its paragraphs, and the names of the promises. */
    private static List<String> sentencesOfTheDocument() throws IOException {
        String document = Files.readString(Path.of("../shared/DOC.md"));
        List<String> sentences = new ArrayList<>();
        String terms = document.substring(document.indexOf("## Terms") + 8, document.indexOf("## Promise 1:"));
        for (String paragraph : terms.trim().split("\n\n")) {
            for (String sentence : paragraph.split("(?<=\\.) (?=[A-Z('])")) {
                if (sentence.contains(" ")) {
                    sentences.add(sentence);
                }
            }
        }
        Matcher promise = Pattern.compile("(?m)^## (Promise .*)$").matcher(document);
        while (promise.find()) {
            sentences.add(promise.group(1));
        }
        return sentences;
    }

    /** By each sentence and each name of a promise, what the table says of it, in the table's order. */
    private static Map<String, String> sentencesOfTheTable() throws IOException {
        Map<String, String> told = new LinkedHashMap<>();
        String sentence = "";
        for (String line : Files.readAllLines(SENTENCES)) {
            if (line.startsWith("> ")) {
                sentence = line.substring(2);
            } else if (line.startsWith("### Promise ")) {
                sentence = line.substring(4);
            }
            if (!sentence.isEmpty()) {
                told.merge(sentence, line, String::concat);
            }
        }
        return told;
    }

    static void tableOfSentencesHasEachOfTheDocument() throws IOException {
        Map<String, String> told = sentencesOfTheTable();
        Check.same("sentences", String.join("\n", told.keySet()), String.join("\n", sentencesOfTheDocument()));
        told.remove(PROMISES_NOTHING);
        told.forEach((sentence, text) -> Check.isTrue("a test for: " + sentence, NAME_OF_A_TEST.matcher(text).find()));
    }

    static void tableOfSentencesChangesWhatTheClassHasOnce() throws IOException {
        String source = Breaks.source();
        List<Breaks.Break> told = Breaks.told();
        Check.isTrue("changes are told", told.size() > sentencesOfTheDocument().size());
        for (Breaks.Break one : told) {
            Check.same(one.heading() + ": places of " + one.from(), one.placesIn(source), 1);
        }
    }
}
