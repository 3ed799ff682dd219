/** Promises 29 to 35: the edges that the document names, each by itself. */
final class WalkEdgesTest {
    private static final int LOW = Integer.MIN_VALUE;
    private static final int HIGH = Integer.MAX_VALUE;
    private static final String SPOILED =
        "Throws ConcurrentModificationException if a key came or went since the walk began, other than by removeHere()";

    /** By these calls keys come or go; the mixed map with the word "ab" written has them all. */
    private static final Twins.Call[] SPOILERS = {
        x -> x.put(5, 5),
        x -> x.remove(70000),
        x -> x.load(0, 3, 2, 1),
        x -> x.removeRange(HIGH, HIGH),
        x -> Expect.putWord(x, "abz", 1),
        x -> x.removeWord(),
    };

    private WalkEdgesTest() {
    }

    private static void leadsTo(Needlecase x, int... numbers) {
        for (int number : numbers) {
            Expect.yes(x.next());
            Expect.equal(number, x.number());
        }
        Expect.no(x.next());
    }

    private static void leadsTo(Needlecase x, String... words) {
        for (String word : words) {
            Expect.yes(x.next());
            Expect.equal(word, Expect.wordHere(x));
        }
        Expect.no(x.next());
    }

    /** The walks that stand at none, each in its way. */
    private static Twins.Maker[] standingAtNone() {
        return new Twins.Maker[] {
            WalkEdgesTest::aheadOfNumbers, WalkEdgesTest::aheadOfWords, WalkEdgesTest::behindNumbers,
            WalkEdgesTest::behindWords, WalkEdgesTest::whereANumberWent, WalkEdgesTest::whereAWordWent,
        };
    }

    private static Needlecase aheadOfNumbers() {
        Needlecase x = Maps.mixed();
        x.walk(-1, 300);
        return x;
    }

    private static Needlecase aheadOfWords() {
        Needlecase x = Maps.mixed();
        x.walkWords();
        return x;
    }

    private static Needlecase behindNumbers() {
        Needlecase x = Maps.walkingNumbers();
        x.next();
        x.next();
        x.next();
        return x;
    }

    private static Needlecase behindWords() {
        Needlecase x = Maps.walkingWords();
        x.next();
        x.next();
        return x;
    }

    private static Needlecase whereANumberWent() {
        Needlecase x = Maps.walkingNumbers();
        x.removeHere();
        return x;
    }

    private static Needlecase whereAWordWent() {
        Needlecase x = Maps.walkingWords();
        x.removeHere();
        return x;
    }

    /** A call of a walk that is spoiled by each call that can do so, and wherever it stands. */
    private static void isSpoiledByEach(Twins.Call call) {
        for (Twins.Call spoiler : SPOILERS) {
            Twins.Maker[] walks = {Maps::walkingNumbers, Maps::walkingWords, WalkEdgesTest::aheadOfNumbers,
                WalkEdgesTest::behindWords, WalkEdgesTest::whereANumberWent};
            for (Twins.Maker walk : walks) {
                Twins.spoiled(() -> {
                    Needlecase x = walk.make();
                    spoiler.on(x);
                    return x;
                }, call);
            }
        }
    }

    // ---- promise 29

    @Says("Throws IllegalArgumentException if low is greater than high")
    static void promise29LowGreaterThanHigh() {
        Twins.badArgument(Needlecase::new, x -> x.walk(1, 0));
        Twins.badArgument(Maps::walkingNumbers, x -> x.walk(1, 0), x -> x.walk(0, -1), x -> x.walk(HIGH, LOW),
            x -> x.walk(LOW + 1, LOW), x -> x.walk(HIGH, HIGH - 1));
        Twins.badArgument(Maps::walkingWords, x -> x.walk(1, 0));
        Twins.badArgument(Maps::spoiledNumbers, x -> x.walk(1, 0));
    }

    @Says({"low: the lowest number", "high: the highest number"})
    static void promise29ARangeOfOneNumber() {
        Needlecase x = Maps.mixed();
        for (int number : new int[] {LOW, -1, 0, 300, HIGH}) {
            x.walk(number, number);
            leadsTo(x, number);
        }
        x.walk(299, 299);
        Expect.no(x.next());
    }

    @Says({"low: the lowest number", "high: the highest number", "It stands ahead of the first one."})
    static void promise29TheEndsOfARange() {
        Needlecase x = Maps.mixed();
        x.walk(LOW, HIGH);
        leadsTo(x, LOW, -1, 0, 1, 2, 300, 70000, HIGH);
        x.walk(LOW + 1, HIGH - 1);
        leadsTo(x, -1, 0, 1, 2, 300, 70000);
        x.walk(-1, 300);
        leadsTo(x, -1, 0, 1, 2, 300);
        x.walk(0, 299);
        leadsTo(x, 0, 1, 2);
    }

    @Says("Begins a walk through all numbers of a range, in their order, in place of the walk that was begun last.")
    static void promise29AMapWithoutANumber() {
        Needlecase empty = new Needlecase();
        empty.walk(LOW, HIGH);
        Expect.no(empty.next());
        Needlecase word = Maps.oneWord();
        word.walk(LOW, HIGH);
        Expect.no(word.next());
        Needlecase one = Maps.oneNumber();
        one.walk(LOW, HIGH);
        leadsTo(one, 7);
        one.walk(8, HIGH);
        Expect.no(one.next());
        one.walk(LOW, 6);
        Expect.no(one.next());
    }

    @Says("Begins a walk through all numbers of a range, in their order, in place of the walk that was begun last.")
    static void promise29InPlaceOfAnotherWalk() {
        Twins.Maker[] walks = {Maps::walkingNumbers, Maps::walkingWords, WalkEdgesTest::behindNumbers, WalkEdgesTest::behindWords};
        for (Twins.Maker walk : walks) {
            Needlecase x = walk.make();
            x.walk(1, 2);
            Expect.badState(x, x::value);
            leadsTo(x, 1, 2);
        }
        Needlecase spoiled = Maps.spoiledNumbers();
        spoiled.walk(2, 300);
        leadsTo(spoiled, 2, 5, 300);
    }

    @Says("It stands ahead of the first one.")
    static void promise29AheadOfTheFirst() {
        Twins.badState(WalkEdgesTest::aheadOfNumbers, x -> x.number(), x -> x.value(), x -> x.letterAt(0), x -> x.removeHere());
        leadsTo(aheadOfNumbers(), -1, 0, 1, 2, 300);
    }

    // ---- promise 30

    @Says("Begins a walk through all words that begin with the written one, in their order, in place of the walk that was begun last.")
    static void promise30AWordWithoutALetter() {
        Needlecase x = Maps.mixed();
        x.clear();
        x.walkWords();
        leadsTo(x, "a", "ab", "abc", "abcdefghijkl", "b");
        Needlecase full = Maps.full();
        full.clear();
        full.walkWords();
        leadsTo(full, "a");
    }

    @Says("Begins a walk through all words that begin with the written one, in their order, in place of the walk that was begun last.")
    static void promise30AWordWithTwelveLetters() {
        Needlecase x = Maps.mixed();
        Expect.write(x, "abcdefghijkl");
        x.walkWords();
        leadsTo(x, "abcdefghijkl");
        Expect.write(x, "abcdefghijkm");
        x.walkWords();
        Expect.no(x.next());
        Expect.write(x, "zzzzzzzzzzzz");
        x.walkWords();
        Expect.no(x.next());
    }

    @Says("Begins a walk through all words that begin with the written one, in their order, in place of the walk that was begun last.")
    static void promise30AMapWithoutSuchAWord() {
        Needlecase empty = new Needlecase();
        empty.walkWords();
        Expect.no(empty.next());
        Needlecase numbers = Maps.fullOfNumbers();
        numbers.walkWords();
        Expect.no(numbers.next());
        Needlecase one = Maps.oneWord();
        one.letter('a');
        one.walkWords();
        Expect.no(one.next());
    }

    @Says("It stands ahead of the first one, and keeps to these words, whatever is written then.")
    static void promise30OtherLettersAreWritten() {
        Needlecase x = aheadOfWords();
        x.back();
        x.back();
        Expect.yes(x.next());
        Expect.equal("ab", Expect.wordHere(x));
        x.letter('b');
        x.letter('c');
        Expect.equal("ab", Expect.wordHere(x));
        Expect.yes(x.next());
        Expect.equal("abc", Expect.wordHere(x));
        x.clear();
        Expect.equal(5, x.countWords());
        Expect.equal(0, x.rankWord());
        leadsTo(x, "abcdefghijkl");
    }

    @Says("It stands ahead of the first one, and keeps to these words, whatever is written then.")
    static void promise30AheadOfTheFirst() {
        Twins.badState(WalkEdgesTest::aheadOfWords, x -> x.number(), x -> x.value(), x -> x.letterAt(0), x -> x.removeHere());
        leadsTo(aheadOfWords(), "ab", "abc", "abcdefghijkl");
    }

    @Says("Begins a walk through all words that begin with the written one, in their order, in place of the walk that was begun last.")
    static void promise30InPlaceOfAnotherWalk() {
        Twins.Maker[] walks = {Maps::walkingNumbers, Maps::walkingWords, WalkEdgesTest::behindNumbers, WalkEdgesTest::behindWords,
            Maps::spoiledNumbers, Maps::spoiledWords};
        for (Twins.Maker walk : walks) {
            Needlecase x = walk.make();
            x.walkWords();
            Expect.badState(x, x::value);
            leadsTo(x, "ab", "abc", "abcdefghijkl");
        }
    }

    // ---- promise 31

    @Says("Throws IllegalStateException if no walk was begun")
    static void promise31NoWalkBegun() {
        Twins.badState(Needlecase::new, x -> x.next());
        Twins.badState(Maps::mixed, x -> x.next());
        Twins.badState(Maps::fullOfNumbers, x -> x.next());
    }

    @Says(SPOILED)
    static void promise31AKeyCameOrWent() {
        isSpoiledByEach(x -> x.next());
    }

    @Says(SPOILED)
    static void promise31AKeyThatCameAndWentAgain() {
        Twins.spoiled(() -> {
            Needlecase x = Maps.walkingNumbers();
            x.put(5, 5);
            x.remove(5);
            return x;
        }, x -> x.next(), x -> x.value());
        Twins.spoiled(() -> {
            Needlecase x = Maps.walkingWords();
            x.put(0, x.remove(0));
            return x;
        }, x -> x.next(), x -> x.value());
    }

    @Says(SPOILED)
    static void promise31TheKeyAtWhichTheWalkStandsWentByAnotherCall() {
        Twins.spoiled(() -> {
            Needlecase x = Maps.walkingNumbers();
            x.remove(1);
            return x;
        }, x -> x.next(), x -> x.number(), x -> x.letterAt(0), x -> x.value(), x -> x.removeHere());
        Twins.spoiled(() -> {
            Needlecase x = aheadOfWords();
            x.next();
            x.removeWord();
            return x;
        }, x -> x.next(), x -> x.number(), x -> x.letterAt(0), x -> x.value(), x -> x.removeHere());
    }

    @Says(SPOILED)
    static void promise31AKeyOutsideTheWalk() {
        Twins.spoiled(() -> {
            Needlecase x = Maps.walkingNumbers();
            Expect.putWord(x, "zz", 1);
            return x;
        }, x -> x.next(), x -> x.number());
        Twins.spoiled(() -> {
            Needlecase x = new Needlecase();
            x.walk(0, 9);
            x.put(10, 1);
            return x;
        }, x -> x.next());
    }

    @Says({SPOILED, "Throws IllegalStateException if no walk was begun"})
    static void promise31KeysThatCameAheadOfAnyWalk() {
        Twins.badState(Maps::mixed, x -> x.next(), x -> x.number(), x -> x.letterAt(0), x -> x.value(), x -> x.removeHere());
        Needlecase x = Maps.mixed();
        x.removeRange(LOW, -1);
        x.put(9, 9);
        x.walk(LOW, HIGH);
        leadsTo(x, 0, 1, 2, 9, 300, 70000, HIGH);
    }

    @Says(SPOILED)
    static void promise31RemoveHereSpoilsNothing() {
        Needlecase x = Maps.walkingNumbers();
        x.removeHere();
        Expect.yes(x.next());
        Expect.equal(2, x.number());
        x.removeHere();
        leadsTo(x, 300);
        x.put(8, 8);
        Expect.spoiled(x, x::next);
    }

    @Says(SPOILED)
    static void promise31CallsByWhichNoKeyComesOrGoes() {
        Needlecase x = Maps.walkingNumbers();
        x.put(300, 1);
        x.load(0, 1, 3, 4);
        x.removeRange(3, 299);
        x.putWord(8);
        x.clear();
        x.letter('q');
        Expect.badArgument(x, () -> x.walk(1, 0));
        Expect.badArgument(x, () -> x.load(0, 0, 1, 1));
        Expect.noSuchKey(x, () -> x.remove(3));
        Expect.noSuchKey(x, x::removeWord);
        leadsTo(x, 2, 300);
        Twins.keepAll(Maps::full, y -> Expect.badState(y, () -> y.put(-1, 1)), y -> Expect.badState(y, () -> y.load(-1, 1, 2, 1)));
    }

    @Says({"Goes on to the next key of the walk.", "Behind the last one the walk stands at none.", "Returns whether there is one."})
    static void promise31BehindTheLastOne() {
        for (Twins.Maker behind : new Twins.Maker[] {WalkEdgesTest::behindNumbers, WalkEdgesTest::behindWords}) {
            Twins.badState(behind, x -> x.number(), x -> x.value(), x -> x.letterAt(0), x -> x.removeHere());
            Twins.keepAll(behind, x -> Expect.no(x.next()), x -> Expect.no(x.next() || x.next()));
        }
    }

    @Says({"Goes on to the next key of the walk.", "Returns whether there is one."})
    static void promise31ThroughAFullMap() {
        Needlecase x = Maps.fullOfNumbers();
        x.walk(LOW, HIGH);
        for (int number = 0; number < 400; number++) {
            Expect.yes(x.next());
            if (number % 5 == 4) {
                Expect.equal(number, x.number());
            }
        }
        Expect.no(x.next());
    }

    // ---- promise 32

    @Says({"Returns the number at which the walk stands.", "Returns the number."})
    static void promise32TheLowestAndTheHighestInt() {
        Needlecase x = Maps.of(LOW, HIGH);
        x.walk(LOW, HIGH);
        x.next();
        Expect.equal(LOW, x.number());
        Expect.equal(LOW, x.number());
        x.next();
        Expect.equal(HIGH, x.number());
    }

    @Says("Throws IllegalStateException if no walk was begun, or it does not stand at a number")
    static void promise32NoWalkBegun() {
        Twins.badState(Needlecase::new, x -> x.number());
        Twins.badState(Maps::mixed, x -> x.number());
    }

    @Says("Throws IllegalStateException if no walk was begun, or it does not stand at a number")
    static void promise32TheWalkStandsAtNone() {
        for (Twins.Maker walk : standingAtNone()) {
            Twins.badState(walk, x -> x.number());
        }
    }

    @Says("Throws IllegalStateException if no walk was begun, or it does not stand at a number")
    static void promise32TheWalkStandsAtAWord() {
        Twins.badState(Maps::walkingWords, x -> x.number());
    }

    @Says(SPOILED)
    static void promise32AKeyCameOrWent() {
        isSpoiledByEach(x -> x.number());
    }

    // ---- promise 33

    @Says({"Returns a letter of the word at which the walk stands.", "place: 0 for the first letter", "Returns the letter."})
    static void promise33TheFirstAndTheLastLetter() {
        Needlecase x = Maps.ofWords("z", "abcdefghijkl");
        x.walkWords();
        x.next();
        Expect.equal('a', x.letterAt(0));
        Expect.equal('l', x.letterAt(11));
        x.next();
        Expect.equal('z', x.letterAt(0));
    }

    @Says("Throws IndexOutOfBoundsException if the word has no such letter")
    static void promise33APlaceBelow0() {
        Twins.badIndex(Maps::walkingWords, x -> x.letterAt(-1), x -> x.letterAt(-2), x -> x.letterAt(LOW));
    }

    @Says("Throws IndexOutOfBoundsException if the word has no such letter")
    static void promise33APlaceThatIsNotThere() {
        Twins.badIndex(Maps::walkingWords, x -> x.letterAt(3), x -> x.letterAt(4), x -> x.letterAt(11), x -> x.letterAt(HIGH));
        Twins.badIndex(() -> {
            Needlecase x = Maps.walkingWords();
            x.next();
            return x;
        }, x -> x.letterAt(12), x -> x.letterAt(13), x -> x.letterAt(14), x -> x.letterAt(-1));
        Twins.badIndex(() -> {
            Needlecase x = Maps.full();
            x.walkWords();
            x.next();
            return x;
        }, x -> x.letterAt(1), x -> x.letterAt(2));
    }

    @Says("Throws IllegalStateException if no walk was begun, or it does not stand at a word")
    static void promise33NoWalkBegun() {
        Twins.badState(Needlecase::new, x -> x.letterAt(0));
        Twins.badState(Maps::mixed, x -> x.letterAt(0), x -> x.letterAt(-1), x -> x.letterAt(12));
    }

    @Says("Throws IllegalStateException if no walk was begun, or it does not stand at a word")
    static void promise33TheWalkStandsAtNone() {
        for (Twins.Maker walk : standingAtNone()) {
            Twins.badState(walk, x -> x.letterAt(0));
        }
    }

    @Says("Throws IllegalStateException if no walk was begun, or it does not stand at a word")
    static void promise33TheWalkStandsAtANumber() {
        Twins.badState(Maps::walkingNumbers, x -> x.letterAt(0), x -> x.letterAt(3));
    }

    @Says("Where a call could throw several exceptions, it throws the one that its comment lists first.")
    static void promise33NoWordComesAheadOfAWrongPlace() {
        Twins.badState(Maps::walkingNumbers, x -> x.letterAt(-1), x -> x.letterAt(12), x -> x.letterAt(LOW), x -> x.letterAt(HIGH));
        for (Twins.Maker walk : standingAtNone()) {
            Twins.badState(walk, x -> x.letterAt(-1), x -> x.letterAt(12));
        }
    }

    @Says(SPOILED)
    static void promise33AKeyCameOrWent() {
        isSpoiledByEach(x -> x.letterAt(0));
    }

    @Says("Where a call could throw several exceptions, it throws the one that its comment lists first.")
    static void promise33ASpoiledWalkComesAheadOfAWrongPlace() {
        isSpoiledByEach(x -> x.letterAt(-1));
        isSpoiledByEach(x -> x.letterAt(12));
    }

    // ---- promise 34

    @Says({"Returns the value of the key at which the walk stands, as it is now.", "Returns the value."})
    static void promise34AnotherValueOfANumber() {
        Needlecase x = Maps.walkingNumbers();
        Expect.equal(10, x.value());
        x.put(1, LOW);
        Expect.equal(LOW, x.value());
        x.load(1, 1, 1, HIGH);
        Expect.equal(HIGH, x.value());
        x.put(2, 5);
        Expect.equal(HIGH, x.value());
        x.next();
        Expect.equal(5, x.value());
    }

    @Says({"Returns the value of the key at which the walk stands, as it is now.", "Returns the value."})
    static void promise34AnotherValueOfAWord() {
        Needlecase x = aheadOfWords();
        x.next();
        Expect.equal(5, x.value());
        x.putWord(LOW);
        Expect.equal(LOW, x.value());
        x.letter('c');
        x.putWord(HIGH);
        Expect.equal(LOW, x.value());
        x.next();
        Expect.equal(HIGH, x.value());
    }

    @Says("Returns the value of the key at which the walk stands, as it is now.")
    static void promise34AnotherValueInAFullMap() {
        Needlecase x = Maps.full();
        x.put(17, 4);
        Expect.equal(4, x.value());
        Expect.badState(x, () -> x.put(1000, 5));
        Expect.equal(4, x.value());
    }

    @Says("Throws IllegalStateException if no walk was begun, or it stands at none")
    static void promise34NoWalkBegun() {
        Twins.badState(Needlecase::new, x -> x.value());
        Twins.badState(Maps::mixed, x -> x.value());
    }

    @Says("Throws IllegalStateException if no walk was begun, or it stands at none")
    static void promise34TheWalkStandsAtNone() {
        for (Twins.Maker walk : standingAtNone()) {
            Twins.badState(walk, x -> x.value());
        }
    }

    @Says(SPOILED)
    static void promise34AKeyCameOrWent() {
        isSpoiledByEach(x -> x.value());
    }

    // ---- promise 35

    private static final String GOES_ON = "Takes the key at which the walk stands out of the map; the walk stands at none then, "
        + "and next() goes on to the key that comes behind it.";

    @Says({GOES_ON, "Returns its value."})
    static void promise35TheFirstAndTheLastKeyOfAWalk() {
        Needlecase x = aheadOfNumbers();
        x.next();
        Expect.equal(-10, x.removeHere());
        Expect.yes(x.next());
        Expect.equal(0, x.number());
        x.next();
        x.next();
        x.next();
        Expect.equal(3000, x.removeHere());
        Expect.no(x.next());
        Expect.no(x.next());
        x.walk(LOW, HIGH);
        leadsTo(x, LOW, 0, 1, 2, 70000, HIGH);
    }

    @Says(GOES_ON)
    static void promise35TheSameAsTakingTheNumberOut() {
        Twins.alike(() -> {
            Needlecase x = Maps.walkingNumbers();
            x.removeHere();
            x.walk(2, 2);
            return x;
        }, () -> {
            Needlecase x = Maps.walkingNumbers();
            x.remove(1);
            x.walk(2, 2);
            return x;
        });
    }

    @Says({GOES_ON, "Returns its value."})
    static void promise35TheOnlyKey() {
        Needlecase x = Maps.oneNumber();
        x.walk(LOW, HIGH);
        x.next();
        Expect.equal(70, x.removeHere());
        Expect.equal(0, x.size());
        Expect.badState(x, x::removeHere);
        Expect.no(x.next());
        Needlecase word = Maps.oneWord();
        word.walkWords();
        word.next();
        Expect.equal(70, word.removeHere());
        Expect.equal(0, word.size());
        Expect.badState(word, word::removeHere);
        Expect.no(word.next());
    }

    @Says(GOES_ON)
    static void promise35EachKeyInTurn() {
        Needlecase x = Maps.walkingWords();
        Expect.equal(2, x.removeHere());
        Expect.yes(x.next());
        Expect.equal("abcdefghijkl", Expect.wordHere(x));
        Expect.equal(3, x.removeHere());
        Expect.no(x.next());
        Needlecase full = Maps.fullOfNumbers();
        full.walk(100, 299);
        for (int number = 100; number < 300; number++) {
            Expect.yes(full.next());
            Expect.equal(1, full.removeHere());
        }
        Expect.no(full.next());
        Expect.equal(200, full.size());
        Expect.equal(100, full.rank(299));
    }

    @Says(GOES_ON)
    static void promise35KeysOfAFullMap() {
        Needlecase x = Maps.full();
        Expect.equal(1, x.removeHere());
        Expect.equal(399, x.size());
        Expect.yes(x.next());
        Expect.equal(18, x.number());
        Expect.yes(x.put(1000, 1));
        Expect.spoiled(x, x::removeHere);
    }

    @Says("Throws IllegalStateException if no walk was begun, or it stands at none")
    static void promise35NoWalkBegun() {
        Twins.badState(Needlecase::new, x -> x.removeHere());
        Twins.badState(Maps::mixed, x -> x.removeHere());
        Twins.badState(Maps::fullOfNumbers, x -> x.removeHere());
    }

    @Says("Throws IllegalStateException if no walk was begun, or it stands at none")
    static void promise35TheWalkStandsAtNone() {
        for (Twins.Maker walk : standingAtNone()) {
            Twins.badState(walk, x -> x.removeHere());
        }
    }

    @Says(SPOILED)
    static void promise35AKeyCameOrWent() {
        isSpoiledByEach(x -> x.removeHere());
    }

    @Says("A call that throws an exception changes nothing.")
    static void termsARefusedCallLetsASpoiledWalkSpoiled() {
        Twins.spoiled(() -> {
            Needlecase x = Maps.spoiledWords();
            Expect.spoiled(x, x::next);
            Expect.spoiled(x, x::removeHere);
            return x;
        }, x -> x.next(), x -> x.value());
    }
}
