/** Promises 29 to 35. */
final class WalkTest {
    private static final int LOW = Integer.MIN_VALUE;
    private static final int HIGH = Integer.MAX_VALUE;

    private WalkTest() {
    }

    private static Needlecase sample() {
        Needlecase x = new Needlecase();
        for (int number : new int[] {300, -1, 70000, 1, 2, LOW, HIGH}) {
            x.put(number, number + 1);
        }
        String[] words = {"b", "a", "ab", "aab", "abc"};
        for (int i = 0; i < words.length; i++) {
            Expect.putWord(x, words[i], i);
        }
        x.clear();
        return x;
    }

    private static void leadsTo(Needlecase x, int... numbers) {
        for (int number : numbers) {
            Expect.yes(x.next());
            Expect.equal(number, x.number());
            Expect.equal(x.get(number), x.value());
        }
        Expect.no(x.next());
    }

    private static void leadsTo(Needlecase x, String... words) {
        for (String word : words) {
            Expect.yes(x.next());
            Expect.equal(word, Expect.wordHere(x));
        }
        Expect.no(x.next());
    }

    private static void standsAtNone(Needlecase x) {
        Expect.badState(x, x::number);
        Expect.badState(x, x::value);
        Expect.badState(x, () -> x.letterAt(0));
        Expect.badState(x, () -> x.letterAt(-1));
        Expect.badState(x, x::removeHere);
    }

    private static void isSpoiled(Needlecase x) {
        Expect.spoiled(x, x::next);
        Expect.spoiled(x, x::number);
        Expect.spoiled(x, x::value);
        Expect.spoiled(x, () -> x.letterAt(0));
        Expect.spoiled(x, () -> x.letterAt(-1));
        Expect.spoiled(x, x::removeHere);
    }

    static void promise29WalkLeadsThroughARange() {
        Needlecase x = sample();
        x.walk(LOW, HIGH);
        leadsTo(x, LOW, -1, 1, 2, 300, 70000, HIGH);
        x.walk(-1, 300);
        leadsTo(x, -1, 1, 2, 300);
        x.walk(0, 299);
        leadsTo(x, 1, 2);
        x.walk(2, 2);
        leadsTo(x, 2);
        x.walk(3, 299);
        Expect.no(x.next());
        x.walk(HIGH, HIGH);
        leadsTo(x, HIGH);
        x.walk(LOW, LOW);
        leadsTo(x, LOW);
    }

    static void promise29WalkStandsAheadOfTheFirst() {
        Needlecase x = sample();
        x.walk(1, 2);
        standsAtNone(x);
        Expect.yes(x.next());
        x.walk(-1, 300);
        standsAtNone(x);
        leadsTo(x, -1, 1, 2, 300);
    }

    static void promise29WalkRefusesAnEmptyRange() {
        Needlecase x = sample();
        Expect.badArgument(x, () -> x.walk(1, 0));
        Expect.badState(x, x::next);
        x.walk(1, 300);
        x.next();
        Expect.badArgument(x, () -> x.walk(HIGH, LOW));
        Expect.equal(1, x.number());
        leadsTo(x, 2, 300);
        x.put(5, 5);
        Expect.badArgument(x, () -> x.walk(1, 0));
        isSpoiled(x);
    }

    static void promise30WalkWordsLeadsThroughTheWordsThatBeginAlike() {
        Needlecase x = sample();
        x.walkWords();
        leadsTo(x, "a", "aab", "ab", "abc", "b");
        Expect.write(x, "a");
        x.walkWords();
        leadsTo(x, "a", "aab", "ab", "abc");
        Expect.write(x, "ab");
        x.walkWords();
        leadsTo(x, "ab", "abc");
        Expect.write(x, "abc");
        x.walkWords();
        leadsTo(x, "abc");
        for (String none : new String[] {"aac", "abcd", "c", "zzzzzzzzzzzz"}) {
            Expect.write(x, none);
            x.walkWords();
            Expect.no(x.next());
        }
    }

    static void promise30WalkWordsKeepsToItsWords() {
        Needlecase x = sample();
        Expect.write(x, "ab");
        x.walkWords();
        standsAtNone(x);
        Expect.write(x, "b");
        Expect.yes(x.next());
        Expect.equal("ab", Expect.wordHere(x));
        x.clear();
        Expect.equal("ab", Expect.wordHere(x));
        leadsTo(x, "abc");
        x.walk(1, 1);
        x.walkWords();
        leadsTo(x, "a", "aab", "ab", "abc", "b");
        x.walkWords();
        x.walk(1, 1);
        leadsTo(x, 1);
    }

    static void promise30WalkOverAMapWithoutWords() {
        Needlecase x = new Needlecase();
        x.walkWords();
        Expect.no(x.next());
        x.load(0, 1, 10, 1);
        x.walkWords();
        Expect.no(x.next());
    }

    static void promise31NextWithoutAWalk() {
        Needlecase x = sample();
        Expect.badState(x, x::next);
        x.remove(1);
        Expect.badState(x, x::next);
    }

    static void promise31NextBehindTheLast() {
        Needlecase x = sample();
        x.walk(1, 2);
        leadsTo(x, 1, 2);
        standsAtNone(x);
        Expect.no(x.next());
        Expect.no(x.next());
        standsAtNone(x);
    }

    static void promise31NextThroughAFullMap() {
        Needlecase x = Expect.full();
        x.walk(LOW, HIGH);
        for (int number = 0; number < 399; number++) {
            Expect.yes(x.next());
            if (number % 8 == 6) {
                Expect.equal(number, x.number());
            }
        }
        Expect.no(x.next());
    }

    static void promise31ComingAndGoingKeysSpoilAWalk() {
        Runnable[] spoilers = new Runnable[9];
        for (int i = 0; i < spoilers.length; i++) {
            Needlecase x = sample();
            spoilers[0] = () -> x.put(5, 5);
            spoilers[1] = () -> x.remove(70000);
            spoilers[2] = () -> x.load(2, 1, 2, 1);
            spoilers[3] = () -> x.removeRange(0, 1);
            spoilers[4] = () -> Expect.putWord(x, "q", 1);
            spoilers[5] = () -> {
                Expect.write(x, "b");
                x.removeWord();
            };
            spoilers[6] = () -> {
                x.put(5, 5);
                x.remove(5);
            };
            spoilers[7] = () -> {
                x.remove(2);
                x.put(2, 3);
            };
            spoilers[8] = () -> x.removeRange(LOW, HIGH);
            x.walk(2, 300);
            Expect.yes(x.next());
            spoilers[i].run();
            isSpoiled(x);
            isSpoiled(x);
            x.clear();
            x.walkWords();
            Expect.yes(x.next());
            Expect.equal('a', x.letterAt(0));
        }
    }

    static void promise31AWalkThatStandsAtNoneIsSpoiledToo() {
        Needlecase x = sample();
        x.walk(2, 2);
        x.put(5, 5);
        isSpoiled(x);
        x.walk(2, 2);
        leadsTo(x, 2);
        x.remove(5);
        isSpoiled(x);
        x.walk(1, 2);
        x.next();
        x.removeHere();
        x.put(1, 1);
        isSpoiled(x);
    }

    static void promise31CallsThatKeepTheKeysSpoilNothing() {
        Needlecase x = sample();
        x.walk(1, 300);
        x.next();
        x.put(2, 77);
        x.load(1, 1, 2, 78);
        x.removeRange(3, 299);
        Expect.noSuchKey(x, () -> x.remove(5));
        Expect.noSuchKey(x, x::removeWord);
        Expect.badArgument(x, () -> x.load(0, 0, 1, 1));
        Expect.no(Expect.putWord(x, "b", 5));
        Expect.equal(1, x.number());
        leadsTo(x, 2, 300);
        Needlecase full = Expect.full();
        full.walk(0, 0);
        Expect.badState(full, () -> full.put(-1, 1));
        Expect.badState(full, () -> full.load(-1, 1, 2, 1));
        leadsTo(full, 0);
    }

    static void promise32Number() {
        Needlecase x = sample();
        Expect.badState(x, x::number);
        x.walk(LOW, HIGH);
        Expect.badState(x, x::number);
        x.next();
        Expect.equal(LOW, x.number());
        Expect.equal(LOW, x.number());
        x.walkWords();
        x.next();
        Expect.badState(x, x::number);
    }

    static void promise33LetterAt() {
        Needlecase x = sample();
        Expect.badState(x, () -> x.letterAt(0));
        Expect.badState(x, () -> x.letterAt(-1));
        x.walk(1, 1);
        x.next();
        Expect.badState(x, () -> x.letterAt(0));
        Expect.badState(x, () -> x.letterAt(99));
        Expect.write(x, "abc");
        x.walkWords();
        x.next();
        Expect.equal('a', x.letterAt(0));
        Expect.equal('b', x.letterAt(1));
        Expect.equal('c', x.letterAt(2));
        for (int place : new int[] {3, 4, 12, 13, HIGH, -1, -2, LOW}) {
            Expect.badIndex(x, () -> x.letterAt(place));
        }
        Expect.putWord(x, "abcdefghijkl", 1);
        x.walkWords();
        x.next();
        Expect.equal('l', x.letterAt(11));
        Expect.badIndex(x, () -> x.letterAt(12));
    }

    static void promise34ValueAsItIsNow() {
        Needlecase x = sample();
        Expect.badState(x, x::value);
        x.walk(1, 2);
        Expect.badState(x, x::value);
        x.next();
        Expect.equal(2, x.value());
        x.put(1, LOW);
        Expect.equal(LOW, x.value());
        x.load(1, 1, 2, HIGH);
        Expect.equal(HIGH, x.value());
        x.next();
        Expect.equal(HIGH, x.value());
        Expect.write(x, "ab");
        x.walkWords();
        x.next();
        Expect.equal(2, x.value());
        x.putWord(41);
        Expect.equal(41, x.value());
    }

    static void promise35RemoveHereGoesOn() {
        Needlecase x = sample();
        Expect.badState(x, x::removeHere);
        x.walk(-1, 300);
        Expect.badState(x, x::removeHere);
        Expect.yes(x.next());
        Expect.equal(0, x.removeHere());
        standsAtNone(x);
        Expect.noSuchKey(x, () -> x.get(-1));
        Expect.yes(x.next());
        Expect.equal(1, x.number());
        Expect.yes(x.next());
        Expect.equal(3, x.removeHere());
        Expect.equal(10, x.size());
        Expect.yes(x.next());
        Expect.equal(300, x.number());
        Expect.equal(301, x.removeHere());
        Expect.no(x.next());
        standsAtNone(x);
        x.walk(LOW, HIGH);
        leadsTo(x, LOW, 1, 70000, HIGH);
    }

    static void promise35RemoveHereOfWords() {
        Needlecase x = sample();
        Expect.write(x, "a");
        x.walkWords();
        x.clear();
        int[] values = {1, 3, 2, 4};
        for (int value : values) {
            Expect.yes(x.next());
            Expect.equal(value, x.removeHere());
        }
        Expect.no(x.next());
        Expect.equal(1, x.countWords());
        Expect.equal(8, x.size());
    }

    static void promise35RemoveHereOfAllKeys() {
        Needlecase x = new Needlecase();
        x.load(0, 3, 200, 1);
        x.walk(LOW, HIGH);
        for (int left = 199; left >= 0; left--) {
            Expect.yes(x.next());
            Expect.equal(1, x.removeHere());
        }
        Expect.no(x.next());
        Expect.equal(0, x.size());
        Expect.equal(0, x.height());
    }
}
