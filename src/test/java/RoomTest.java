import java.lang.management.ManagementFactory;
import java.util.function.Consumer;

/** The room of a run: objects and arrays are used again, so even the dearest calls take little of it. */
final class RoomTest {
    /** Far below the room's 7.3 million fields and elements, of at least one byte each. */
    private static final long MOST_BYTES = 600_000;

    private RoomTest() {
    }

    private static long bytesOf(Consumer<Needlecase> run) {
        com.sun.management.ThreadMXBean threads = (com.sun.management.ThreadMXBean) ManagementFactory.getThreadMXBean();
        long thread = Thread.currentThread().getId();
        long before = threads.getThreadAllocatedBytes(thread);
        run.accept(new Needlecase());
        return threads.getThreadAllocatedBytes(thread) - before;
    }

    private static void staysSmall(Consumer<Needlecase> run) {
        // The first run's classes are loaded and linked in the room, too.
        bytesOf(run);
        long bytes = bytesOf(run);
        if (bytes > MOST_BYTES) {
            throw new AssertionError("a run takes " + bytes + " bytes");
        }
    }

    static void numbersThatComeAndGo() {
        staysSmall(x -> {
            for (int i = 0; i < 170; i++) {
                x.load(0, 1 << i % 24, 200, i);
                x.load(-1, -(1 << i % 23), 200, i);
                x.removeRange(Integer.MIN_VALUE, Integer.MAX_VALUE);
            }
        });
    }

    static void wordsThatComeAndGo() {
        staysSmall(x -> {
            for (int i = 0; i < 170; i++) {
                x.letter((char) ('a' + i % 26));
                x.putWord(i);
                if (i % 12 == 11) {
                    x.clear();
                }
            }
        });
    }

    static void walksAndQuestions() {
        staysSmall(x -> {
            x.load(0, 70000, 200, 1);
            x.load(1, 70000, 200, 1);
            for (int i = 0; i < 120; i++) {
                x.walk(Integer.MIN_VALUE, Integer.MAX_VALUE);
                x.next();
                x.removeHere();
                x.footprint();
            }
        });
    }
}
