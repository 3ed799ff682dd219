import java.util.Objects;

/** What the tests ask of answers. */
final class Expect {
    private Expect() {
    }

    static void equal(Object want, Object got) {
        if (!Objects.equals(want, got)) {
            throw new AssertionError("due is " + want + ", answered was " + got);
        }
    }

    static void yes(boolean got) {
        equal(true, got);
    }

    static void no(boolean got) {
        equal(false, got);
    }

    /** The call throws just this exception, and what can be seen of the object stays as it was. */
    static void refused(Needlecase x, Class<? extends RuntimeException> due, Runnable call) {
        String before = seen(x);
        equal(due.getName(), outcome(call));
        equal(before, seen(x));
    }

    static void noSuchKey(Needlecase x, Runnable call) {
        refused(x, java.util.NoSuchElementException.class, call);
    }

    static void badArgument(Needlecase x, Runnable call) {
        refused(x, IllegalArgumentException.class, call);
    }

    static void badState(Needlecase x, Runnable call) {
        refused(x, IllegalStateException.class, call);
    }

    static void badIndex(Needlecase x, Runnable call) {
        refused(x, IndexOutOfBoundsException.class, call);
    }

    static void spoiled(Needlecase x, Runnable call) {
        refused(x, java.util.ConcurrentModificationException.class, call);
    }

    /** The name of the exception that the call throws. */
    static String outcome(Runnable call) {
        try {
            call.run();
            return "no exception";
        } catch (RuntimeException e) {
            return e.getClass().getName();
        }
    }

    /**
     * What some calls that change nothing answer. They are few, since a call behind an object's 512th
     * is free to answer what it likes: a test may ask for some twenty refusals of one object.
     */
    private static String seen(Needlecase x) {
        StringBuilder seen = new StringBuilder();
        add(seen, () -> seen.append(x.size()).append(' ').append(x.footprint()));
        add(seen, () -> seen.append(x.grown()).append(' ').append(x.shrunk()));
        add(seen, () -> seen.append(x.sum(Integer.MIN_VALUE, Integer.MAX_VALUE)).append(' ').append(x.rank(0)));
        add(seen, () -> seen.append(x.countWords()).append(' ').append(x.rankWord()));
        add(seen, () -> seen.append(x.value()));
        add(seen, () -> seen.append(x.number()));
        add(seen, () -> seen.append(x.letterAt(0)));
        return seen.toString();
    }

    private static void add(StringBuilder seen, Runnable call) {
        String outcome = outcome(call);
        seen.append(", ").append(outcome).append(' ');
    }

    /** Writes a word in place of the one that is written. */
    static void write(Needlecase x, String word) {
        x.clear();
        for (char letter : word.toCharArray()) {
            x.letter(letter);
        }
    }

    static boolean putWord(Needlecase x, String word, int value) {
        write(x, word);
        return x.putWord(value);
    }

    /** The word at which the walk stands. */
    static String wordHere(Needlecase x) {
        StringBuilder word = new StringBuilder();
        try {
            for (int place = 0; place < 13; place++) {
                word.append(x.letterAt(place));
            }
        } catch (IndexOutOfBoundsException e) {
            return word.toString();
        }
        throw new AssertionError("a word has more than 12 letters: " + word);
    }

    /** A map with 400 keys: the numbers from 0 to 398 and the word "a"; all values are 1. */
    static Needlecase full() {
        Needlecase x = new Needlecase();
        x.load(0, 1, 200, 1);
        x.load(200, 1, 199, 1);
        putWord(x, "a", 1);
        equal(400, x.size());
        return x;
    }
}
