/** Maps for the tests of edges: each call makes a new one, the same every time. */
final class Maps {
    private static final int LOW = Integer.MIN_VALUE;
    private static final int HIGH = Integer.MAX_VALUE;

    private Maps() {
    }

    static Needlecase oneNumber() {
        Needlecase x = new Needlecase();
        x.put(7, 70);
        return x;
    }

    /** The word "ab" alone, which is still written. */
    static Needlecase oneWord() {
        Needlecase x = new Needlecase();
        Expect.putWord(x, "ab", 70);
        return x;
    }

    /** A map with the numbers given, each with ten times itself as its value. */
    static Needlecase of(int... numbers) {
        Needlecase x = new Needlecase();
        for (int number : numbers) {
            x.put(number, 10 * number);
        }
        return x;
    }

    /** A map with the words given, the first with the value 1, the second with 2; no word is written. */
    static Needlecase ofWords(String... words) {
        Needlecase x = new Needlecase();
        for (int i = 0; i < words.length; i++) {
            Expect.putWord(x, words[i], i + 1);
        }
        x.clear();
        return x;
    }

    /** Numbers at the ends and in the middle, and words; "ab" is written, and is in the map. */
    static Needlecase mixed() {
        Needlecase x = of(LOW, -1, 0, 1, 2, 300, 70000, HIGH);
        String[] words = {"a", "abc", "abcdefghijkl", "b", "ab"};
        for (int i = 0; i < words.length; i++) {
            Expect.putWord(x, words[i], i + 1);
        }
        return x;
    }

    /** The mixed map, with a walk through the numbers from -1 to 300 that stands at 1. */
    static Needlecase walkingNumbers() {
        Needlecase x = mixed();
        x.walk(-1, 300);
        x.next();
        x.next();
        x.next();
        return x;
    }

    /** The mixed map, with a walk through the words that begin with "ab", which stands at "abc". */
    static Needlecase walkingWords() {
        Needlecase x = mixed();
        x.walkWords();
        x.next();
        x.next();
        return x;
    }

    /** A walk that is spoiled and stood at a number. */
    static Needlecase spoiledNumbers() {
        Needlecase x = walkingNumbers();
        x.put(5, 5);
        return x;
    }

    /** A walk that is spoiled and stood at a word. */
    static Needlecase spoiledWords() {
        Needlecase x = walkingWords();
        x.put(5, 5);
        return x;
    }

    /** The numbers from 0 to 398 and the word "a", which is written; a walk stands at 17. */
    static Needlecase full() {
        Needlecase x = Expect.full();
        x.walk(17, 18);
        x.next();
        return x;
    }

    /** The numbers from 0 to 399; no word is written. */
    static Needlecase fullOfNumbers() {
        Needlecase x = new Needlecase();
        x.load(0, 1, 200, 1);
        x.load(200, 1, 200, 1);
        return x;
    }

    /** The numbers from 0 to 397 and the word "a", which is written. */
    static Needlecase roomForOne() {
        Needlecase x = Expect.full();
        x.remove(398);
        return x;
    }
}
