import java.io.IOException;
import java.lang.reflect.Method;
import java.nio.file.Files;
import java.nio.file.Path;
import java.util.ArrayList;
import java.util.HashMap;
import java.util.List;
import java.util.Map;
import java.util.regex.Matcher;
import java.util.regex.Pattern;

/** Holds the tests against the document: each of its sentences has a test, and each test quotes it rightly. */
public final class DocumentTest {
    private static final Path DOCUMENT = Path.of("../shared/DOC.md");
    private static final Pattern HEADING = Pattern.compile("## (?:Promise (\\d+): .*|Terms|What it is)");
    // Not the two full stops of "0 .. 600".
    private static final String END_OF_SENTENCE = "(?<=[A-Za-z0-9)])\\.(?:\\s+|$)";
    private static final Class<?>[] TESTS = {TermsTest.class, RefusalsTest.class, ChangesTest.class,
        SnapshotsTest.class, QuestionsTest.class, CursorsTest.class, AstrayTest.class};

    private DocumentTest() {
    }

    public static void main(String[] args) throws IOException {
        Map<Integer, List<String>> sentences = sentences();
        List<Method> tests = new ArrayList<>();
        for (Class<?> type : TESTS) {
            tests.addAll(Sentences.testsOf(type));
        }
        tests.forEach(test -> isNamedByItsPromise(test));
        tests.forEach(test -> quotesTheDocument(test, sentences));
        sentences.forEach((promise, all) -> all.forEach(sentence -> hasATest(promise, sentence, tests)));
        Check.due("promises", sentences.size() - 1, 24);
        Check.finish("DocumentTest");
    }

    /** By promise, 0 being the terms: the sentences, without the signature that leads a promise. */
    private static Map<Integer, List<String>> sentences() throws IOException {
        Map<Integer, List<String>> found = new HashMap<>();
        int promise = -1;
        for (String line : Files.readAllLines(DOCUMENT)) {
            Matcher heading = HEADING.matcher(line);
            if (heading.matches()) {
                promise = heading.group(1) == null ? 0 : Integer.parseInt(heading.group(1));
                found.putIfAbsent(promise, new ArrayList<>());
            } else if (line.startsWith("#")) {
                promise = -1;
            } else if (promise >= 0 && !line.isBlank()) {
                String text = line.replaceFirst("^`[^`]*`: ", "");
                found.get(promise).addAll(List.of(text.split(END_OF_SENTENCE)));
            }
        }
        // What the class is, told before all promises, is no promise itself.
        found.get(0).remove(0);
        return found;
    }

    private static void isNamedByItsPromise(Method test) {
        int promise = test.getAnnotation(Says.class).promise();
        String due = promise == 0 ? "terms_" : "promise" + promise + "_";
        Check.due(test.getName() + " begins with " + due, test.getName().startsWith(due), true);
    }

    private static void quotesTheDocument(Method test, Map<Integer, List<String>> sentences) {
        Says says = test.getAnnotation(Says.class);
        boolean quoted = sentences.getOrDefault(says.promise(), List.of()).stream()
            .anyMatch(sentence -> sentence.contains(says.words()));
        Check.due(test.getName() + " quotes '" + says.words() + "' from the document", quoted, true);
    }

    private static void hasATest(int promise, String sentence, List<Method> tests) {
        boolean tested = tests.stream().map(test -> test.getAnnotation(Says.class))
            .anyMatch(says -> says.promise() == promise && sentence.contains(says.words()));
        Check.due("promise " + promise + ", '" + sentence + "' has a test", tested, true);
    }
}
