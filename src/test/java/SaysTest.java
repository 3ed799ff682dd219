import java.io.IOException;
import java.lang.reflect.Method;
import java.nio.file.Files;
import java.nio.file.Path;
import java.util.LinkedHashSet;
import java.util.Map;
import java.util.Set;
import java.util.TreeMap;
import java.util.regex.Matcher;
import java.util.regex.Pattern;

/** Each sentence of the document that promises something has a test that says so, and each test's sentence stands there. */
final class SaysTest {
    private static final Path DOCUMENT = Path.of("../shared/DOC.md");
    private static final String TERMS = "Terms";
    private static final Pattern PROMISE_NAMES = Pattern.compile("(?:promise|And)(\\d\\d)");

    /** Sentences by their section; those of "What it is" and "Terms" hold for all promises. */
    private final Map<String, Set<String>> sentences = new TreeMap<>();
    private final Map<String, Set<String>> said = new TreeMap<>();

    private SaysTest() {
    }

    static void eachSentenceHasATestAndStandsInTheDocument() throws IOException {
        if (!Files.exists(DOCUMENT)) {
            System.out.println("there is no " + DOCUMENT + ": the tests' sentences are not looked up");
            return;
        }
        SaysTest test = new SaysTest();
        test.readDocument();
        for (Class<?> suite : AllTests.SUITES) {
            for (Method method : suite.getDeclaredMethods()) {
                if (method.isAnnotationPresent(Says.class)) {
                    test.readTest(method);
                }
            }
        }
        Expect.equal(36, test.sentences.size());
        Expect.equal("", listed(test.sentences, test.said));
        Expect.equal("", listed(test.said, test.sentences));
    }

    /** What stands in the first and not in the second. */
    private static String listed(Map<String, Set<String>> first, Map<String, Set<String>> second) {
        StringBuilder listed = new StringBuilder();
        for (String section : first.keySet()) {
            for (String sentence : first.get(section)) {
                if (!second.getOrDefault(section, Set.of()).contains(sentence)) {
                    listed.append('\n').append(section).append(": ").append(sentence);
                }
            }
        }
        return listed.toString();
    }

    private void readDocument() throws IOException {
        String section = "";
        for (String line : Files.readAllLines(DOCUMENT)) {
            if (line.startsWith("## ")) {
                section = sectionOf(line.substring(3));
            } else if (!section.isEmpty() && !line.isBlank()) {
                addLine(section, line);
            }
        }
    }

    private static String sectionOf(String title) {
        if (title.equals(TERMS) || title.equals("What it is")) {
            return TERMS;
        }
        Matcher promise = Pattern.compile("Promise (\\d+): .*").matcher(title);
        return promise.matches() ? promiseOf(promise.group(1)) : "";
    }

    private static String promiseOf(String number) {
        return "promise " + Integer.parseInt(number);
    }

    private void addLine(String section, String line) {
        String text = line;
        if (text.startsWith("`") && text.contains("`: ")) {
            text = text.substring(text.indexOf("`: ") + 3);
        }
        text = text.replaceFirst("^- ", "").replace("`", "").replace("java .util.", "");
        for (String sentence : text.split("(?<=\\.) (?=[A-Z])")) {
            if (promisesSomething(sentence)) {
                sentences.computeIfAbsent(section, s -> new LinkedHashSet<>()).add(sentence);
            }
        }
    }

    /** Not so headings, what the face's comments say, and what the class is. */
    private static boolean promisesSomething(String sentence) {
        return sentence.contains(" ") && !sentence.startsWith("Ahead of the calls ") && !sentence.startsWith("An ordered map ");
    }

    private void readTest(Method method) {
        for (String sentence : method.getAnnotation(Says.class).value()) {
            String section = TERMS;
            Matcher promise = PROMISE_NAMES.matcher(method.getName());
            while (promise.find()) {
                String named = promiseOf(promise.group(1));
                if (sentences.get(named).contains(sentence)) {
                    section = named;
                }
            }
            said.computeIfAbsent(section, s -> new LinkedHashSet<>()).add(sentence);
        }
    }
}
