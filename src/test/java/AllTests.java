import java.lang.reflect.InvocationTargetException;
import java.lang.reflect.Method;
import java.lang.reflect.Modifier;
import java.util.Arrays;
import java.util.Comparator;

/** Runs every test method of the project: each static method without arguments of the classes below. */
public final class AllTests {
    static final Class<?>[] SUITES = {
        NumbersTest.class, WordsTest.class, TreeTest.class, WalkTest.class,
        NumberEdgesTest.class, WordEdgesTest.class, TreeEdgesTest.class, WalkEdgesTest.class, SaysTest.class,
        MeetingTest.class, ModelTest.class, ScriptTest.class, RoomTest.class, FaceTest.class, SourceTest.class, ReadmeTest.class,
    };

    private static int passed = 0;
    private static int failed = 0;

    public static void main(String[] args) throws IllegalAccessException {
        SourceTest.source = args.length > 0 ? args[0] : "src/main/java/Needlecase.java";
        for (Class<?> suite : SUITES) {
            Method[] methods = suite.getDeclaredMethods();
            Arrays.sort(methods, Comparator.comparing(Method::getName));
            for (Method method : methods) {
                if (isTest(method)) {
                    run(suite.getName() + "." + method.getName(), method);
                }
            }
        }
        System.out.println(passed + " passed, " + failed + " failed");
        if (failed > 0 || passed == 0) {
            System.exit(1);
        }
    }

    private static boolean isTest(Method method) {
        boolean open = Modifier.isStatic(method.getModifiers()) && !Modifier.isPrivate(method.getModifiers());
        return open && !method.isSynthetic() && method.getParameterCount() == 0 && method.getReturnType() == void.class;
    }

    private static void run(String name, Method method) throws IllegalAccessException {
        try {
            method.invoke(null);
            passed++;
        } catch (InvocationTargetException e) {
            failed++;
            System.out.println("FAILED " + name + ": " + e.getCause());
            for (StackTraceElement line : e.getCause().getStackTrace()) {
                System.out.println("    " + line);
            }
        }
    }
}
