import java.io.IOException;
import java.nio.file.Files;
import java.nio.file.Path;
import java.util.List;
import java.util.regex.Pattern;

/** Rules of LANGUAGE.md that can be read off the source line by line. */
final class SourceTest {
    static String source;

    private static final Pattern FORBIDDEN = Pattern.compile(
        "->|::|\\b(try|catch|finally|synchronized|assert|package|lambda|System|Thread|hashCode|equals|toString|record|var)\\b");
    private static final List<String> IMPORTS = List.of(
        "import java.util.ConcurrentModificationException;", "import java.util.NoSuchElementException;");
    private static final int LONGEST_METHOD = 60;

    private SourceTest() {
    }

    static void linesKeepToTheLanguage() throws IOException {
        for (String line : Files.readAllLines(Path.of(source))) {
            String code = line.strip();
            if (code.startsWith("*") || code.startsWith("/")) {
                continue;
            }
            if (FORBIDDEN.matcher(code).find() || code.startsWith("import ") && !IMPORTS.contains(code)) {
                throw new AssertionError("not in the language: " + code);
            }
        }
    }

    static void methodsAreShort() throws IOException {
        int length = 0;
        for (String line : Files.readAllLines(Path.of(source))) {
            length = line.isBlank() ? 0 : length + 1;
            if (length > LONGEST_METHOD) {
                throw new AssertionError("too long a run of lines, up to: " + line);
            }
        }
    }
}
