import java.lang.reflect.Constructor;
import java.lang.reflect.Field;
import java.lang.reflect.Method;
import java.lang.reflect.Modifier;
import java.util.TreeSet;

/** The public face of the document, and no other. */
final class FaceTest {
    private static final String[] FACE = {
        "boolean put(int, int) ISE", "int get(int) NSE", "int remove(int) NSE", "int load(int, int, int, int) IAE ISE",
        "int removeRange(int, int) IAE", "int ceiling(int) NSE", "int floor(int) NSE", "int rank(int)",
        "int select(int) IOB", "long sum(int, int) IAE", "int countPrefix(int, int) IAE", "int letter(char) IAE ISE",
        "int back() ISE", "void clear()", "boolean putWord(int) ISE", "int getWord() NSE", "int removeWord() NSE",
        "int countWords()", "int rankWord()", "int size()", "int nodes(int) IAE", "int height()", "int pathBytes()",
        "int depth(int) NSE", "int grown()", "int shrunk()", "int footprint()", "void walk(int, int) IAE",
        "void walkWords()", "boolean next() CME ISE", "int number() CME ISE", "char letterAt(int) CME ISE IOB",
        "int value() CME ISE", "int removeHere() CME ISE",
    };

    private FaceTest() {
    }

    static void theClassIsPublicAndFinal() {
        Expect.equal(Modifier.PUBLIC | Modifier.FINAL, Needlecase.class.getModifiers());
        Expect.equal(1, Needlecase.class.getDeclaredConstructors().length);
        for (Constructor<?> constructor : Needlecase.class.getDeclaredConstructors()) {
            Expect.equal("public Needlecase()", constructor.toString());
        }
    }

    static void theMethodsAreThoseOfTheDocument() {
        TreeSet<String> face = new TreeSet<>();
        TreeSet<String> privateNames = new TreeSet<>();
        for (Method method : Needlecase.class.getDeclaredMethods()) {
            if (Modifier.isPrivate(method.getModifiers())) {
                privateNames.add(method.getName());
            } else {
                Expect.equal(Modifier.PUBLIC, method.getModifiers());
                face.add(signature(method));
            }
        }
        Expect.equal(new TreeSet<>(java.util.List.of(FACE)), face);
        for (String call : FACE) {
            Expect.no(privateNames.contains(call.replaceAll("\\(.*", "").replaceAll(".* ", "")));
        }
    }

    private static String signature(Method method) {
        String signature = method.toGenericString();
        String throwing = "";
        for (Class<?> kind : method.getExceptionTypes()) {
            throwing += " " + shortName(kind.getSimpleName());
        }
        return signature.replace("public ", "").replace("Needlecase.", "").replaceAll(" throws.*", "")
            .replace(",", ", ") + throwing;
    }

    private static String shortName(String kind) {
        switch (kind) {
            case "IllegalStateException":
                return "ISE";
            case "IllegalArgumentException":
                return "IAE";
            case "NoSuchElementException":
                return "NSE";
            case "IndexOutOfBoundsException":
                return "IOB";
            case "ConcurrentModificationException":
                return "CME";
            default:
                return kind;
        }
    }

    static void fieldsAndClassesAreHidden() {
        for (Field field : Needlecase.class.getDeclaredFields()) {
            Expect.yes(Modifier.isPrivate(field.getModifiers()));
            Expect.yes(!Modifier.isStatic(field.getModifiers()) || Modifier.isFinal(field.getModifiers()));
        }
        for (Class<?> inside : Needlecase.class.getDeclaredClasses()) {
            Expect.yes(Modifier.isPrivate(inside.getModifiers()) && Modifier.isStatic(inside.getModifiers()));
        }
    }
}
