/** Runs in which several sentences of the document meet, each answer worked out by hand. */
final class MeetingTest {
    private static final int LOW = Integer.MIN_VALUE;
    private static final int HIGH = Integer.MAX_VALUE;
    private static final int[] SIZES = {4, 16, 48, 256};

    private MeetingTest() {
    }

    /** How many nodes there are of the sizes 4, 16, 48 and 256. */
    private static void nodesAre(Needlecase x, int... counts) {
        for (int i = 0; i < SIZES.length; i++) {
            Expect.equal(counts[i], x.nodes(SIZES[i]));
        }
    }

    private static void treeIs(Needlecase x, int height, int pathBytes, int grown, int shrunk) {
        Expect.equal(height, x.height());
        Expect.equal(pathBytes, x.pathBytes());
        Expect.equal(grown, x.grown());
        Expect.equal(shrunk, x.shrunk());
    }

    private static void leadsToWord(Needlecase x, String word) {
        Expect.yes(x.next());
        Expect.equal(word, Expect.wordHere(x));
    }

    private static void leadsToNumber(Needlecase x, int number) {
        Expect.yes(x.next());
        Expect.equal(number, x.number());
    }

    // ---- loads, ranges and single calls in turn, with words between them

    @Says({"If a key comes by which a node would have more children than its size, it grows to the next size.",
        "If a key goes and a node would have one child left by that, the node goes, too; this is no shrinking.",
        "All other nodes keep their sizes."})
    static void termsOneNodeShrinksAndGrowsWhileWordsBringAndTakeItsParent() {
        Needlecase x = new Needlecase();
        Expect.equal(49, x.load(0, 1, 49, 2));
        treeIs(x, 1, 4, 3, 0);
        Expect.yes(Expect.putWord(x, "a", 1));
        nodesAre(x, 1, 0, 0, 1);
        treeIs(x, 2, 3, 3, 0);
        Expect.equal(9, x.removeRange(9, 17));
        nodesAre(x, 1, 0, 1, 0);
        treeIs(x, 2, 3, 3, 1);
        Expect.yes(x.put(9, 5));
        Expect.equal(8, x.load(8, 1, 10, 3));
        nodesAre(x, 1, 0, 0, 1);
        treeIs(x, 2, 3, 4, 1);
        Expect.equal(50, x.size());
        // 0 to 7 and 18 to 48 have the value 2, and 8 to 17 have 3.
        Expect.equal(39 * 2L + 10 * 3L, x.sum(LOW, HIGH));
        x.letter('b');
        Expect.yes(x.putWord(7));
        nodesAre(x, 2, 0, 0, 1);
        treeIs(x, 2, 3 + 1, 4, 1);
        Expect.equal(2064 + 2 * 52 + 4, x.footprint());
        x.back();
        Expect.equal(1, x.removeWord());
        nodesAre(x, 1, 0, 0, 1);
        treeIs(x, 2, 3, 4, 1);
        Expect.equal(49, x.removeRange(LOW, HIGH));
        nodesAre(x, 0, 0, 0, 0);
        treeIs(x, 0, 0, 4, 4);
        Expect.equal(1, x.countWords());
        Expect.equal(0, x.rankWord());
    }

    @Says("So numbers stand in their order, ahead of all words, and words as in a dictionary.")
    static void termsNumbersAndWordsAreCountedApart() {
        Needlecase x = new Needlecase();
        Expect.equal(50, x.load(-98, 4, 50, 10));
        Expect.yes(Expect.putWord(x, "m", 1000));
        Expect.equal(13, x.removeRange(-50, -1));
        Expect.yes(x.put(-1, -10));
        Expect.yes(Expect.putWord(x, "ma", 2000));
        // -98 to -54 in steps of 4, -1, and 2 to 98 in steps of 4.
        Expect.equal(12 + 1 + 25, x.rank(HIGH));
        Expect.equal(12, x.rank(-1));
        Expect.equal(-1, x.select(12));
        Expect.equal(2, x.select(13));
        Expect.badIndex(x, () -> x.select(38));
        Expect.equal(-54, x.floor(-2));
        Expect.equal(-1, x.ceiling(-53));
        Expect.noSuchKey(x, () -> x.ceiling(99));
        Expect.equal(12 + 1, x.countPrefix(-256, 3));
        Expect.equal(38, x.countPrefix(77, 0));
        Expect.equal(12 * 10L - 10 + 25 * 10L, x.sum(LOW, HIGH));
        Expect.equal(1, x.rankWord());
        Expect.equal(40, x.size());
        Expect.equal(38, x.removeRange(LOW, HIGH));
        Expect.equal(1, x.rankWord());
        Expect.equal(1, x.height());
        Expect.equal(2, x.pathBytes());
        Expect.equal(2000, x.removeWord());
        Expect.equal(0, x.height());
        Expect.equal(0, x.countPrefix(77, 0));
    }

    @Says("Keys are whole numbers (ints) or words of 1 to 12 small letters from a to z; at most 400 keys are in the map.")
    static void termsRoomComesAndGoesByCallsOfAllSorts() {
        Needlecase x = Expect.full();
        Expect.badState(x, () -> x.load(398, 1, 2, 9));
        Expect.equal(1, x.get(398));
        Expect.equal(0, x.load(398, -1, 200, 9));
        Expect.equal(1, x.removeWord());
        Expect.equal(1, x.load(398, 1, 2, 8));
        Expect.badState(x, () -> x.putWord(1));
        x.walk(0, 1);
        leadsToNumber(x, 0);
        x.removeHere();
        Expect.yes(x.putWord(2));
        Expect.badState(x, () -> x.put(0, 1));
        Expect.equal(2, x.removeRange(1, 2));
        Expect.badState(x, () -> x.load(-1, 1, 4, 1));
        Expect.equal(2, x.load(0, 1, 2, 1));
        Expect.equal(400, x.size());
        Expect.badState(x, () -> x.put(2, 1));
        Expect.no(x.putWord(3));
    }

    // ---- a walk that takes keys out

    @Says("If a key goes, and a node of the size 256 has 40 children left by that, one of 48 has 12, or one of 16 has 3, it "
        + "shrinks to the next lower size.")
    static void termsTheTreeWhileAWalkTakesNumbersOut() {
        Needlecase x = new Needlecase();
        x.load(0, 1, 49, 6);
        x.walk(0, 48);
        for (int left = 48; left >= 0; left--) {
            leadsToNumber(x, 48 - left);
            Expect.equal(6, x.removeHere());
            boolean shrinks = left == 40 || left == 12 || left == 3;
            Expect.equal(left > 40 ? 0 : left > 12 ? 1 : left > 3 ? 2 : 3, x.shrunk());
            Expect.equal(shrinks ? 1 : left > 1 ? 1 : 0, x.nodes(left > 40 ? 256 : left > 12 ? 48 : left > 3 ? 16 : 4));
            Expect.equal(left > 1 ? 4 : 0, x.pathBytes());
        }
        Expect.no(x.next());
        treeIs(x, 0, 0, 3, 3);
        Expect.equal(0, x.size());
    }

    @Says("If a key goes and a node would have one child left by that, the node goes, too; this is no shrinking.")
    static void termsTheTreeWhileAWalkTakesWordsOut() {
        Needlecase x = Maps.ofWords("a", "ab", "abc", "abcd", "b");
        nodesAre(x, 4, 0, 0, 0);
        treeIs(x, 4, 1, 0, 0);
        Expect.write(x, "ab");
        x.walkWords();
        leadsToWord(x, "ab");
        Expect.equal(2, x.removeHere());
        treeIs(x, 3, 2, 0, 0);
        leadsToWord(x, "abc");
        Expect.equal(3, x.removeHere());
        treeIs(x, 2, 1, 0, 0);
        leadsToWord(x, "abcd");
        Expect.equal(4, x.removeHere());
        treeIs(x, 1, 1, 0, 0);
        nodesAre(x, 1, 0, 0, 0);
        Expect.no(x.next());
        Expect.equal(0, x.countWords());
        Expect.equal(1, x.rankWord());
        Expect.equal(53, x.footprint());
    }

    @Says("Takes the key at which the walk stands out of the map; the walk stands at none then, and next() goes on to the key "
        + "that comes behind it.")
    static void promise35OrderIsAskedBetweenTheKeysThatGo() {
        Needlecase x = new Needlecase();
        x.load(0, 10, 20, 1);
        x.walk(50, 120);
        for (int number = 50; number <= 120; number += 20) {
            leadsToNumber(x, number);
            Expect.equal(number / 10 - (number - 50) / 20, x.rank(number));
            x.removeHere();
            Expect.equal(number + 10, x.ceiling(number));
            Expect.equal(number - 10, x.floor(number));
            leadsToNumber(x, number + 10);
        }
        Expect.no(x.next());
        Expect.equal(16, x.size());
        Expect.equal(16L, x.sum(0, 190));
        Expect.equal(4, x.removeRange(60, 120));
    }

    // ---- a walk begun in place of another

    @Says("Begins a walk through all numbers of a range, in their order, in place of the walk that was begun last.")
    static void promise29AWalkOfNumbersInPlaceOfOneOfWords() {
        Needlecase x = Maps.mixed();
        x.walkWords();
        leadsToWord(x, "ab");
        Expect.equal(5, x.removeHere());
        Expect.badArgument(x, () -> x.walk(1, 0));
        leadsToWord(x, "abc");
        x.walk(2, 300);
        Expect.badState(x, () -> x.letterAt(0));
        leadsToNumber(x, 2);
        Expect.badState(x, () -> x.letterAt(0));
        leadsToNumber(x, 300);
        Expect.equal(3000, x.removeHere());
        Expect.no(x.next());
        Expect.equal(11, x.size());
    }

    @Says("Begins a walk through all words that begin with the written one, in their order, in place of the walk that was "
        + "begun last.")
    static void promise30AWalkOfWordsInPlaceOfASpoiledOneOfNumbers() {
        Needlecase x = Maps.walkingNumbers();
        x.put(5, 50);
        Expect.spoiled(x, x::next);
        x.walkWords();
        Expect.badState(x, x::value);
        leadsToWord(x, "ab");
        Expect.badState(x, x::number);
        x.remove(5);
        Expect.spoiled(x, x::removeHere);
        x.walk(1, 2);
        leadsToNumber(x, 1);
        leadsToNumber(x, 2);
        Expect.no(x.next());
    }

    // ---- letters written while a walk of words goes on

    @Says("It stands ahead of the first one, and keeps to these words, whatever is written then.")
    static void promise30LettersAndValuesBetweenTheSteps() {
        Needlecase x = Maps.ofWords("oa", "oak", "oaks", "oar", "ob");
        Expect.write(x, "oa");
        x.walkWords();
        x.letter('k');
        leadsToWord(x, "oa");
        Expect.no(x.putWord(77));
        leadsToWord(x, "oak");
        Expect.equal(77, x.value());
        Expect.equal(2, x.countWords());
        Expect.equal(1, x.rankWord());
        x.clear();
        leadsToWord(x, "oaks");
        Expect.badState(x, () -> x.putWord(1));
        Expect.equal(3, x.removeHere());
        Expect.write(x, "oaks");
        Expect.noSuchKey(x, x::getWord);
        leadsToWord(x, "oar");
        Expect.badArgument(x, () -> x.letter('S'));
        Expect.equal(4, x.value());
        Expect.no(x.next());
        Expect.yes(x.putWord(5));
        Expect.spoiled(x, x::next);
        x.walkWords();
        leadsToWord(x, "oaks");
        Expect.equal(5, x.value());
    }

    @Says("Throws ConcurrentModificationException if a key came or went since the walk began, other than by removeHere()")
    static void promise31TheWordAtWhichTheWalkStoodComesAgain() {
        Needlecase x = Maps.walkingWords();
        Expect.equal(2, x.removeHere());
        x.letter('c');
        Expect.yes(x.putWord(2));
        Expect.spoiled(x, x::next);
        x.walkWords();
        leadsToWord(x, "abc");
        Expect.equal(2, x.removeWord());
        Expect.spoiled(x, x::value);
        Expect.spoiled(x, x::removeHere);
        Expect.equal(12, x.size());
    }
}
