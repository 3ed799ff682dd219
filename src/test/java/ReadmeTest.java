import java.io.IOException;
import java.lang.reflect.InvocationTargetException;
import java.net.URL;
import java.net.URLClassLoader;
import java.nio.file.Files;
import java.nio.file.Path;
import java.util.regex.Matcher;
import java.util.regex.Pattern;
import javax.tools.ToolProvider;

/** README.md's lines of Java are one program, whose calls answer as the remarks behind them say. */
final class ReadmeTest {
    private static final Path README = Path.of("README.md");
    private static final Path DOCUMENT = Path.of("../shared/DOC.md");
    private static final Pattern ANSWERED = Pattern.compile("\\s*(.*);\\s+// -> ([^:]+)(:.*)?");
    private static final String THROWS = "throws ";
    private static final int FEWEST_ANSWERS = 40;

    private int answers;

    private ReadmeTest() {
    }

    static void theExamplesAnswerAsTheySay() throws Exception {
        ReadmeTest test = new ReadmeTest();
        String program = test.program();
        Expect.yes(test.answers >= FEWEST_ANSWERS);
        Path folder = Files.createTempDirectory("readme");
        try {
            run(folder, program);
        } finally {
            Files.deleteIfExists(folder.resolve("Readme.class"));
            Files.deleteIfExists(folder.resolve("Readme.java"));
            Files.delete(folder);
        }
    }

    private String program() throws IOException {
        StringBuilder program = new StringBuilder("public final class Readme {\npublic static void main(String[] args) {\n");
        boolean inside = false;
        for (String line : Files.readAllLines(README)) {
            if (line.startsWith("```")) {
                inside = line.equals("```java");
            } else if (inside) {
                program.append(statement(line)).append('\n');
            }
        }
        return program.append("}\n}\n").toString();
    }

    private String statement(String line) {
        Matcher answered = ANSWERED.matcher(line);
        if (!answered.matches()) {
            return line;
        }
        answers++;
        String call = answered.group(1);
        String due = answered.group(2).strip();
        if (due.startsWith(THROWS)) {
            return "{ String told = \"nothing\"; try { " + call
                + "; } catch (RuntimeException e) { told = e.getClass().getSimpleName(); } "
                + check("told", due.substring(THROWS.length()), call) + " }";
        }
        return "{ String told = String.valueOf(" + call + "); " + check("told", due, call) + " }";
    }

    private static String check(String told, String due, String call) {
        return "if (!" + told + ".equals(\"" + due + "\")) { throw new AssertionError(\""
            + call.replace("\"", "\\\"") + ": due is " + due + ", answered was \" + " + told + "); }";
    }

    private static void run(Path folder, String program) throws Exception {
        Path source = folder.resolve("Readme.java");
        Files.writeString(source, program);
        int wrong = ToolProvider.getSystemJavaCompiler().run(null, null, null,
            "-cp", System.getProperty("java.class.path"), "-d", folder.toString(), source.toString());
        Expect.equal(0, wrong);
        try (URLClassLoader loader = new URLClassLoader(new URL[] {folder.toUri().toURL()})) {
            loader.loadClass("Readme").getMethod("main", String[].class).invoke(null, (Object) new String[0]);
        } catch (InvocationTargetException e) {
            throw new AssertionError(e.getCause().toString(), e.getCause());
        }
    }

    /** Outside its code README.md has between quotation marks only what the document says. */
    static void theQuotedWordsStandInTheDocument() throws IOException {
        if (!Files.exists(DOCUMENT)) {
            System.out.println("there is no " + DOCUMENT + ": what README.md quotes is not looked up");
            return;
        }
        String document = Files.readString(DOCUMENT).toLowerCase();
        String text = Files.readString(README).replaceAll("(?s)```.*?```", "").replaceAll("\\s+", " ");
        Matcher quoted = Pattern.compile("\"([^\"]+)\"").matcher(text);
        int found = 0;
        while (quoted.find()) {
            found++;
            if (!document.contains(quoted.group(1).toLowerCase())) {
                throw new AssertionError("not in the document: " + quoted.group(1));
            }
        }
        Expect.yes(found > 20);
    }
}
