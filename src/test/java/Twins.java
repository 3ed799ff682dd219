/**
 * Maps that are made alike, and one of which is asked what must change nothing. All that can be known
 * of a map takes more than its 512 calls, so each reading below has a map of its own.
 */
final class Twins {
    private static final int LOW = Integer.MIN_VALUE;
    private static final int HIGH = Integer.MAX_VALUE;
    private static final int[] SIZES = {4, 16, 48, 256};

    /** Four calls for each number; with what a maker takes this stays under 512. */
    private static final int NUMBERS_A_READING = 100;
    private static final int NEIGHBOURS_A_READING = 50;
    private static final int STEPS_A_READING = 100;
    private static final int WORDS_A_READING = 30;
    private static final int MOST_LETTERS = 12;

    /** Makes a map with at most 100 calls, the same every time. */
    interface Maker {
        Needlecase make();
    }

    interface Call {
        void on(Needlecase x);
    }

    private interface Reading {
        void of(Needlecase x, StringBuilder told);
    }

    private interface Answer {
        Object of(Needlecase x);
    }

    private static final Reading[] READINGS = {
        Twins::readTree, Twins::readWalk, Twins::readWords, Twins::readWritten,
        (x, told) -> readNumbers(x, 0, told),
        (x, told) -> readNumbers(x, NUMBERS_A_READING, told),
        (x, told) -> readNumbers(x, 2 * NUMBERS_A_READING, told),
        (x, told) -> readNumbers(x, 3 * NUMBERS_A_READING, told),
        Twins::readNeighbours,
    };

    private Twins() {
    }

    static void noSuchKey(Maker maker, Call... calls) {
        refused(java.util.NoSuchElementException.class, maker, calls);
    }

    static void badArgument(Maker maker, Call... calls) {
        refused(IllegalArgumentException.class, maker, calls);
    }

    static void badState(Maker maker, Call... calls) {
        refused(IllegalStateException.class, maker, calls);
    }

    static void badIndex(Maker maker, Call... calls) {
        refused(IndexOutOfBoundsException.class, maker, calls);
    }

    static void spoiled(Maker maker, Call... calls) {
        refused(java.util.ConcurrentModificationException.class, maker, calls);
    }

    /** Each call throws just this exception and changes nothing. */
    private static void refused(Class<? extends RuntimeException> due, Maker maker, Call... calls) {
        for (Call call : calls) {
            alike(maker, () -> {
                Needlecase x = maker.make();
                Expect.equal(due.getName(), Expect.outcome(() -> call.on(x)));
                return x;
            });
        }
    }

    /** Each call answers and changes nothing. */
    static void keepAll(Maker maker, Call... calls) {
        for (Call call : calls) {
            alike(maker, () -> {
                Needlecase x = maker.make();
                call.on(x);
                return x;
            });
        }
    }

    static void alike(Maker one, Maker other) {
        for (Reading reading : READINGS) {
            Expect.equal(told(reading, one), told(reading, other));
        }
    }

    private static String told(Reading reading, Maker maker) {
        StringBuilder told = new StringBuilder();
        reading.of(maker.make(), told);
        return told.toString();
    }

    /** Returns the answer, or null if the call threw. */
    private static Object tell(Needlecase x, StringBuilder told, Answer answer) {
        try {
            Object answered = answer.of(x);
            told.append(answered).append(' ');
            return answered;
        } catch (RuntimeException e) {
            told.append(e.getClass().getSimpleName()).append(' ');
            return null;
        }
    }

    private static void readTree(Needlecase x, StringBuilder told) {
        for (int size : SIZES) {
            tell(x, told, y -> y.nodes(size));
        }
        tell(x, told, Needlecase::size);
        tell(x, told, Needlecase::height);
        tell(x, told, Needlecase::pathBytes);
        tell(x, told, Needlecase::grown);
        tell(x, told, Needlecase::shrunk);
        tell(x, told, Needlecase::footprint);
        tell(x, told, y -> y.sum(LOW, HIGH));
        tell(x, told, Needlecase::countWords);
        tell(x, told, Needlecase::rankWord);
    }

    private static void readLetters(Needlecase x, StringBuilder told) {
        int place = 0;
        boolean more = true;
        while (more && place <= MOST_LETTERS) {
            int asked = place;
            more = tell(x, told, y -> y.letterAt(asked)) != null;
            place++;
        }
    }

    private static void readWalk(Needlecase x, StringBuilder told) {
        for (int step = 0; step < STEPS_A_READING; step++) {
            tell(x, told, Needlecase::number);
            tell(x, told, Needlecase::value);
            tell(x, told, y -> y.letterAt(0));
            tell(x, told, Needlecase::next);
        }
    }

    private static void readWords(Needlecase x, StringBuilder told) {
        x.clear();
        x.walkWords();
        for (int count = 0; count < WORDS_A_READING && x.next(); count++) {
            tell(x, told, Needlecase::value);
            readLetters(x, told);
        }
    }

    /** Where the written word is not in the map, it is put in, so that a walk can tell its letters. */
    private static void readWritten(Needlecase x, StringBuilder told) {
        if (x.size() == 400) {
            x.remove(x.select(0));
        }
        tell(x, told, y -> y.putWord(0));
        x.walkWords();
        tell(x, told, Needlecase::next);
        readLetters(x, told);
        int left = 0;
        while (left <= MOST_LETTERS && tell(x, told, Needlecase::back) != null) {
            left++;
        }
    }

    private static void readNumbers(Needlecase x, int from, StringBuilder told) {
        int end = Math.min(from + NUMBERS_A_READING, x.rank(HIGH) + 1);
        for (int place = from; place < end; place++) {
            int asked = place;
            if (tell(x, told, y -> y.select(asked)) instanceof Integer number) {
                tell(x, told, y -> y.get(number));
                tell(x, told, y -> y.depth(number));
                tell(x, told, y -> y.rank(number));
            }
        }
    }

    /** What stands beside numbers spread over the whole map. */
    private static void readNeighbours(Needlecase x, StringBuilder told) {
        int numbers = x.rank(HIGH) + 1;
        int step = numbers / NEIGHBOURS_A_READING + 1;
        for (int place = 0; place < numbers; place += step) {
            int asked = place;
            if (tell(x, told, y -> y.select(asked)) instanceof Integer number) {
                tell(x, told, y -> y.ceiling(number + 1));
                tell(x, told, y -> y.floor(number - 1));
                for (int bytes = 1; bytes <= 3; bytes++) {
                    int agreed = bytes;
                    tell(x, told, y -> y.countPrefix(number, agreed));
                }
                tell(x, told, y -> y.sum(LOW, number));
            }
        }
    }
}
