import java.io.IOException;
import java.lang.reflect.Method;
import java.nio.file.DirectoryStream;
import java.nio.file.Files;
import java.nio.file.Path;
import java.util.ArrayList;
import java.util.Collections;
import java.util.List;
import java.util.Locale;
import java.util.Set;
import java.util.TreeSet;

/**
 * Each sentence of the document stands in src/test/sentences.txt, in the document's order, and behind it
 * the tests that would fail if it were broken: methods of the project's tests, at least one of which
 * bears the promise's number, or the section's name.
 */
public final class SentencesTest {
    private static final Path DOCUMENT = Path.of("..", "shared", "DOC.md");
    private static final Path TABLE = Path.of("src", "test", "sentences.txt");
    private static final Path TESTS = Path.of("src", "test", "java");
    private static final String TEST = "    = ";
    private static final String FREE = "(free)";

    /** The one heading of the document without a sign that it is one. */
    private static final String BARE_HEADING = "Store, sessions";

    private final Checks checks = new Checks();
    private final Set<String> methods = new TreeSet<>();

    private SentencesTest() {
    }

    public static void main(String[] args) throws IOException, ReflectiveOperationException {
        SentencesTest test = new SentencesTest();
        List<String> table = Files.readAllLines(TABLE);
        table.removeIf(String::isEmpty);
        test.findMethods();
        test.everySentenceStands(table);
        test.everySentenceHasATest(table);
        test.checks.end();
    }

    private void findMethods() throws IOException, ReflectiveOperationException {
        try (DirectoryStream<Path> sources = Files.newDirectoryStream(TESTS, "*Test.java")) {
            for (Path source : sources) {
                String name = source.getFileName().toString().replace(".java", "");
                for (Method method : Class.forName(name).getDeclaredMethods()) {
                    methods.add(method.getName());
                }
            }
        }
    }

    private void everySentenceStands(List<String> table) throws IOException {
        if (!Files.exists(DOCUMENT)) {
            System.out.println("there is no " + DOCUMENT + ": its sentences are not compared");
            return;
        }
        List<String> due = sentencesOf(Files.readAllLines(DOCUMENT));
        List<String> told = new ArrayList<>(table);
        told.removeIf(line -> line.startsWith(TEST));
        for (int index = 0; index < Math.min(due.size(), told.size()); index++) {
            if (!due.get(index).equals(told.get(index))) {
                checks.holds("the table tells as the next sentence '" + told.get(index)
                        + "', the document '" + due.get(index) + "'", false);
                return;
            }
        }
        checks.due("the sentences of the table", told.size(), due.size());
    }

    /** A sentence ends with a full stop, a semicolon or its line; a line of code is one. */
    private static List<String> sentencesOf(List<String> document) {
        List<String> sentences = new ArrayList<>();
        boolean isCode = false;
        for (String line : document) {
            String text = line.strip();
            if (text.startsWith("```")) {
                isCode = !isCode;
            } else if (isCode || text.startsWith("#") || text.isEmpty()) {
                sentences.add(text);
            } else {
                Collections.addAll(sentences, text.replaceFirst("^- ", "").split("(?<=[.;]|\\.\\))\\s+"));
            }
        }
        sentences.removeIf(String::isEmpty);
        return sentences;
    }

    private void everySentenceHasATest(List<String> table) {
        String heading = "";
        List<String> sentences = new ArrayList<>();
        List<String> tests = new ArrayList<>();
        for (String line : table) {
            boolean isHeading = line.startsWith("#") || line.equals(BARE_HEADING);
            if (!line.startsWith(TEST) && !tests.isEmpty()) {
                tested(heading, sentences, tests);
                sentences.clear();
                tests.clear();
            }
            if (isHeading) {
                checks.holds("these have a test: " + sentences, sentences.isEmpty());
                heading = line.replaceFirst("^#+ ", "");
            } else if (line.startsWith(TEST)) {
                tests.add(line.substring(TEST.length()));
            } else {
                sentences.add(line);
            }
        }
        tested(heading, sentences, tests);
    }

    private void tested(String heading, List<String> sentences, List<String> tests) {
        if (tests.equals(List.of(FREE))) {
            return;
        }
        checks.holds(heading + ": these have a test: " + sentences, !sentences.isEmpty() && !tests.isEmpty());
        for (String test : tests) {
            checks.holds(heading + ": there is a test " + test, methods.contains(test));
        }
        String head = headOf(heading);
        checks.holds(heading + ": one of the tests of " + sentences + " begins with " + head,
                heading.equals("What it is") || tests.stream().anyMatch(test -> Cases.bears(test, head)));
    }

    /** "Promise 12: shift" is promise12, "The public face" publicFace, "Store, sessions" storeAndSessions. */
    private static String headOf(String heading) {
        if (heading.startsWith("Promise ")) {
            return heading.replaceFirst("Promise (\\d+): .*", "promise$1");
        }
        StringBuilder head = new StringBuilder();
        for (String word : heading.replaceFirst("^The ", "").replace(", ", " and ").split(" ")) {
            String first = word.substring(0, 1);
            head.append(head.length() == 0 ? first.toLowerCase(Locale.ROOT) : first.toUpperCase(Locale.ROOT));
            head.append(word.substring(1));
        }
        return head.toString();
    }
}
