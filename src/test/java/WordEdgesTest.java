/** Promises 13 to 20: the edges that the document names, each by itself. */
final class WordEdgesTest {
    private static final int LOW = Integer.MIN_VALUE;
    private static final int HIGH = Integer.MAX_VALUE;
    private static final String LONGEST = "abcdefghijkl";
    private static final Twins.Maker EMPTY = Needlecase::new;
    private static final Twins.Maker FULL = Maps::full;

    private WordEdgesTest() {
    }

    /** The mixed map with a walk and another word written. */
    private static Twins.Maker mixed(String written) {
        return () -> {
            Needlecase x = Maps.walkingNumbers();
            Expect.write(x, written);
            return x;
        };
    }

    private static Twins.Maker full(String written) {
        return () -> {
            Needlecase x = Maps.full();
            Expect.write(x, written);
            return x;
        };
    }

    private static int value(Needlecase x, String word) {
        Expect.write(x, word);
        return x.getWord();
    }

    private static int count(Needlecase x, String word) {
        Expect.write(x, word);
        return x.countWords();
    }

    private static int rank(Needlecase x, String word) {
        Expect.write(x, word);
        return x.rankWord();
    }

    // ---- promise 13

    @Says({"letter: a small letter", "Returns how many letters the word has then."})
    static void promise13EachSmallLetter() {
        for (char letter = 'a'; letter <= 'z'; letter++) {
            Needlecase x = new Needlecase();
            Expect.equal(1, x.letter(letter));
            Expect.equal(2, x.letter(letter));
            x.putWord(1);
            x.walkWords();
            x.next();
            Expect.equal(letter, x.letterAt(0));
            Expect.equal(letter, x.letterAt(1));
        }
    }

    @Says("Throws IllegalArgumentException if letter is not from a to z")
    static void promise13TheSignAheadOfA() {
        Twins.badArgument(EMPTY, x -> x.letter('`'), x -> x.letter((char) 96));
        Twins.badArgument(mixed("ab"), x -> x.letter('`'));
    }

    @Says("Throws IllegalArgumentException if letter is not from a to z")
    static void promise13TheSignBehindZ() {
        Twins.badArgument(EMPTY, x -> x.letter('{'), x -> x.letter((char) 123));
        Twins.badArgument(mixed("ab"), x -> x.letter('{'));
    }

    @Says("Throws IllegalArgumentException if letter is not from a to z")
    static void promise13OtherSigns() {
        Twins.badArgument(mixed("ab"), x -> x.letter('A'), x -> x.letter('Z'), x -> x.letter((char) 0), x -> x.letter(' '),
            x -> x.letter((char) 233), x -> x.letter((char) ('a' + 256)), x -> x.letter((char) 0xffff));
    }

    @Says({"Writes a letter behind the word that is written.", "Returns how many letters the word has then."})
    static void promise13TheTwelfthLetter() {
        Needlecase x = Maps.mixed();
        x.clear();
        for (int count = 1; count <= 12; count++) {
            Expect.equal(count, x.letter(LONGEST.charAt(count - 1)));
        }
        Expect.equal(3, x.getWord());
    }

    @Says("Throws IllegalStateException if the word has 12 letters")
    static void promise13TheThirteenthLetter() {
        Twins.badState(mixed(LONGEST), x -> x.letter('a'), x -> x.letter('m'), x -> x.letter('z'));
        Twins.badState(mixed("zzzzzzzzzzzz"), x -> x.letter('z'));
    }

    @Says("Where a call could throw several exceptions, it throws the one that its comment lists first.")
    static void promise13AWrongSignComesAheadOfAFullWord() {
        Twins.badArgument(mixed(LONGEST), x -> x.letter('`'), x -> x.letter('{'), x -> x.letter('A'));
    }

    // ---- promise 14

    @Says({"Wipes out the last letter of the word that is written.", "Returns how many letters the word has then."})
    static void promise14FromTwelveLettersToNone() {
        Needlecase x = Maps.mixed();
        Expect.write(x, LONGEST);
        for (int left = 11; left >= 3; left--) {
            Expect.equal(left, x.back());
        }
        Expect.equal(2, x.getWord());
        Expect.equal(2, x.back());
        Expect.equal(5, x.getWord());
        Expect.equal(1, x.back());
        Expect.equal(1, x.getWord());
        Expect.equal(0, x.back());
        Expect.equal(5, x.countWords());
    }

    @Says("Throws IllegalStateException if the word has no letter")
    static void promise14AWordWithoutALetter() {
        Twins.badState(EMPTY, x -> x.back());
        Twins.badState(mixed(""), x -> x.back());
        Twins.badState(full(""), x -> x.back());
        Twins.badState(() -> {
            Needlecase x = Maps.walkingWords();
            x.back();
            x.back();
            return x;
        }, x -> x.back());
    }

    @Says("Wipes out the last letter of the word that is written.")
    static void promise14ALetterInPlaceOfTheLastOne() {
        Needlecase x = Maps.ofWords("abcdefghijkz");
        Expect.write(x, LONGEST);
        x.back();
        Expect.equal(12, x.letter('z'));
        Expect.equal(1, x.getWord());
    }

    // ---- promise 15

    @Says("Wipes out all letters of the word that is written.")
    static void promise15AWordWithTwelveLetters() {
        Twins.alike(() -> {
            Needlecase x = mixed(LONGEST).make();
            x.clear();
            return x;
        }, mixed(""));
    }

    @Says("Wipes out all letters of the word that is written.")
    static void promise15AWordWithoutALetter() {
        Twins.keepAll(EMPTY, x -> x.clear());
        Twins.keepAll(mixed(""), x -> x.clear());
    }

    @Says("Wipes out all letters of the word that is written.")
    static void promise15AWordWithOneLetter() {
        Twins.alike(() -> {
            Needlecase x = mixed("q").make();
            x.clear();
            return x;
        }, mixed(""));
    }

    @Says("Calls of four sorts: numbers are put in, looked up and taken out by one call each (or many at once, in steps); "
        + "a word is written letter by letter and stays written until it is changed, and the calls for words are about the word "
        + "that is written; the nodes of the tree can be counted; and a walk leads from key to key in their order.")
    static void termsAWordStaysWritten() {
        Needlecase x = Maps.mixed();
        x.removeWord();
        x.putWord(9);
        x.load(0, 1, 20, 1);
        x.removeRange(LOW, HIGH);
        x.walkWords();
        x.next();
        x.removeHere();
        x.footprint();
        x.countWords();
        x.rankWord();
        Expect.yes(x.putWord(10));
        Expect.equal(10, x.getWord());
        Expect.equal(1, x.back());
        Expect.equal(0, x.back());
    }

    // ---- promise 16

    @Says({"Puts the written word in, or gives it another value.", "Returns whether it is new."})
    static void promise16TheFirstWordAndTheSameAgain() {
        Needlecase x = new Needlecase();
        x.letter('a');
        Expect.yes(x.putWord(1));
        Expect.equal(1, x.size());
        Expect.no(x.putWord(2));
        Expect.equal(2, x.getWord());
        Expect.equal(1, x.size());
        x.removeWord();
        Expect.yes(x.putWord(3));
        Expect.equal(3, x.getWord());
    }

    @Says("value: its value")
    static void promise16TheLowestAndTheHighestIntAsValue() {
        Needlecase x = new Needlecase();
        x.letter('a');
        x.putWord(LOW);
        Expect.equal(LOW, x.getWord());
        x.putWord(HIGH);
        Expect.equal(HIGH, x.getWord());
    }

    @Says("Throws IllegalStateException if the word has no letter, or it would be a new one, and there are 400 keys")
    static void promise16AWordWithoutALetter() {
        Twins.badState(EMPTY, x -> x.putWord(1));
        Twins.badState(mixed(""), x -> x.putWord(1));
        Twins.badState(full(""), x -> x.putWord(1));
    }

    @Says("Keys are whole numbers (ints) or words of 1 to 12 small letters from a to z; at most 400 keys are in the map.")
    static void promise16WordsWithOneAndTwelveLetters() {
        String[] words = {"a", "z", "aaaaaaaaaaaa", "zzzzzzzzzzzz", "aaaaaaaaaaaz", "aaaaaaaaaaa"};
        Needlecase x = Maps.ofWords(words);
        Expect.equal(6, x.size());
        for (int i = 0; i < words.length; i++) {
            Expect.equal(i + 1, value(x, words[i]));
        }
    }

    @Says("Throws IllegalStateException if the word has no letter, or it would be a new one, and there are 400 keys")
    static void promise16The401stKeyIsRefused() {
        Twins.badState(full("b"), x -> x.putWord(1));
        Twins.badState(full("aa"), x -> x.putWord(1));
        Twins.badState(full(LONGEST), x -> x.putWord(1));
        Twins.badState(() -> {
            Needlecase x = Maps.fullOfNumbers();
            x.letter('a');
            return x;
        }, x -> x.putWord(1));
    }

    @Says("Throws IllegalStateException if the word has no letter, or it would be a new one, and there are 400 keys")
    static void promise16The400thKeyComes() {
        Needlecase x = Maps.roomForOne();
        Expect.write(x, LONGEST);
        Expect.yes(x.putWord(4));
        Expect.equal(400, x.size());
        Expect.equal(4, x.getWord());
        Expect.equal(1, value(x, "a"));
    }

    @Says("Throws IllegalStateException if the word has no letter, or it would be a new one, and there are 400 keys")
    static void promise16AFullMapTakesOtherValues() {
        Needlecase x = Maps.full();
        Expect.no(x.putWord(LOW));
        Expect.equal(LOW, x.getWord());
        Expect.equal(400, x.size());
        Expect.equal(399L, x.sum(LOW, HIGH));
    }

    // ---- promise 17

    @Says({"Returns the value of the written word.", "Returns the value."})
    static void promise17TheValueOfEachWord() {
        Needlecase x = Maps.mixed();
        Expect.equal(5, x.getWord());
        Expect.equal(1, value(x, "a"));
        Expect.equal(2, value(x, "abc"));
        Expect.equal(3, value(x, LONGEST));
        Expect.equal(4, value(x, "b"));
        Expect.equal(70, Maps.oneWord().getWord());
        Expect.equal(1, Maps.full().getWord());
    }

    @Says("Throws NoSuchElementException if the word is not in the map")
    static void promise17AWordWithoutALetter() {
        Twins.noSuchKey(EMPTY, x -> x.getWord());
        Twins.noSuchKey(mixed(""), x -> x.getWord());
        Twins.noSuchKey(full(""), x -> x.getWord());
    }

    @Says("Throws NoSuchElementException if the word is not in the map")
    static void promise17AWordWithTwelveLetters() {
        Twins.noSuchKey(mixed("abcdefghijkm"), x -> x.getWord());
        Twins.noSuchKey(mixed("zzzzzzzzzzzz"), x -> x.getWord());
        Twins.noSuchKey(full(LONGEST), x -> x.getWord());
    }

    @Says("Throws NoSuchElementException if the word is not in the map")
    static void promise17BeginningsAndLongerWords() {
        Twins.noSuchKey(mixed("abcd"), x -> x.getWord());
        Twins.noSuchKey(mixed("abcdefghijk"), x -> x.getWord());
        Twins.noSuchKey(mixed("aa"), x -> x.getWord());
        Twins.noSuchKey(mixed("ba"), x -> x.getWord());
        Twins.noSuchKey(() -> {
            Needlecase x = Maps.oneWord();
            x.back();
            return x;
        }, x -> x.getWord());
        Twins.noSuchKey(() -> {
            Needlecase x = Maps.oneWord();
            x.letter('a');
            return x;
        }, x -> x.getWord());
    }

    @Says("Throws NoSuchElementException if the word is not in the map")
    static void promise17AnEmptyMap() {
        Twins.noSuchKey(() -> {
            Needlecase x = new Needlecase();
            x.letter('a');
            return x;
        }, x -> x.getWord());
    }

    // ---- promise 18

    @Says({"Takes the written word out of the map.", "Returns its value."})
    static void promise18TheLastKeyGoes() {
        Needlecase x = Maps.oneWord();
        Expect.equal(70, x.removeWord());
        Expect.equal(0, x.size());
        Twins.alike(() -> {
            Needlecase y = Maps.oneWord();
            y.removeWord();
            y.clear();
            return y;
        }, EMPTY);
    }

    @Says({"Takes the written word out of the map.", "Returns its value."})
    static void promise18WordsWithOneAndTwelveLetters() {
        Needlecase x = Maps.mixed();
        Expect.write(x, LONGEST);
        Expect.equal(3, x.removeWord());
        Expect.write(x, "a");
        Expect.equal(1, x.removeWord());
        Expect.equal(11, x.size());
        Expect.equal(2, x.countWords());
        Expect.equal(5, value(x, "ab"));
        Expect.equal(2, value(x, "abc"));
    }

    @Says("Throws NoSuchElementException if the word is not in the map")
    static void promise18AWordWithoutALetter() {
        Twins.noSuchKey(EMPTY, x -> x.removeWord());
        Twins.noSuchKey(mixed(""), x -> x.removeWord());
        Twins.noSuchKey(full(""), x -> x.removeWord());
    }

    @Says("Throws NoSuchElementException if the word is not in the map")
    static void promise18MissingWordsAreNotTakenOut() {
        Twins.noSuchKey(mixed("abcd"), x -> x.removeWord());
        Twins.noSuchKey(mixed("abcdefghijk"), x -> x.removeWord());
        Twins.noSuchKey(mixed("abcdefghijkm"), x -> x.removeWord());
        Twins.noSuchKey(mixed("zzzzzzzzzzzz"), x -> x.removeWord());
        Twins.noSuchKey(full("aa"), x -> x.removeWord());
    }

    @Says("Throws NoSuchElementException if the word is not in the map")
    static void promise18AWordGoesOnce() {
        Twins.noSuchKey(() -> {
            Needlecase x = Maps.walkingWords();
            x.removeWord();
            return x;
        }, x -> x.removeWord());
    }

    // ---- promise 19

    @Says("Counts the words in the map that begin with the written one; all words, if it has no letter.")
    static void promise19AWordWithoutALetter() {
        Expect.equal(5, count(Maps.mixed(), ""));
        Expect.equal(0, new Needlecase().countWords());
        Expect.equal(0, Maps.oneNumber().countWords());
        Expect.equal(0, Maps.fullOfNumbers().countWords());
        Expect.equal(1, count(Maps.oneWord(), ""));
        Expect.equal(1, count(Maps.full(), ""));
    }

    @Says("Counts the words in the map that begin with the written one; all words, if it has no letter.")
    static void promise19AWordBeginsWithItself() {
        Needlecase x = Maps.mixed();
        Expect.equal(4, count(x, "a"));
        Expect.equal(3, count(x, "ab"));
        Expect.equal(2, count(x, "abc"));
        Expect.equal(1, count(x, "abcd"));
        Expect.equal(1, count(x, "b"));
        Expect.equal(0, count(x, "c"));
        Expect.equal(0, count(x, "aa"));
        Expect.equal(0, count(x, "bb"));
    }

    @Says("Counts the words in the map that begin with the written one; all words, if it has no letter.")
    static void promise19AWordWithTwelveLetters() {
        Needlecase x = Maps.mixed();
        Expect.equal(1, count(x, LONGEST));
        Expect.equal(1, count(x, "abcdefghijk"));
        Expect.equal(0, count(x, "abcdefghijkm"));
        Expect.equal(0, count(x, "zzzzzzzzzzzz"));
        Expect.equal(0, count(new Needlecase(), LONGEST));
    }

    // ---- promise 20

    @Says("Counts the words in the map that stand ahead of the written one.")
    static void promise20AWordWithoutALetter() {
        Expect.equal(0, rank(Maps.mixed(), ""));
        Expect.equal(0, new Needlecase().rankWord());
        Expect.equal(0, Maps.fullOfNumbers().rankWord());
    }

    @Says("Counts the words in the map that stand ahead of the written one.")
    static void promise20AWordIsNotAheadOfItself() {
        Needlecase x = Maps.mixed();
        Expect.equal(0, rank(x, "a"));
        Expect.equal(1, rank(x, "ab"));
        Expect.equal(2, rank(x, "abc"));
        Expect.equal(4, rank(x, "b"));
        Expect.equal(1, rank(x, "aa"));
        Expect.equal(3, rank(x, "abcd"));
        Expect.equal(5, rank(x, "ba"));
        Expect.equal(0, Maps.full().rankWord());
        Expect.equal(1, rank(Maps.full(), "aa"));
    }

    @Says("Counts the words in the map that stand ahead of the written one.")
    static void promise20AWordWithTwelveLetters() {
        Needlecase x = Maps.mixed();
        Expect.equal(3, rank(x, LONGEST));
        Expect.equal(4, rank(x, "abcdefghijkm"));
        Expect.equal(1, rank(x, "aaaaaaaaaaaa"));
        Expect.equal(5, rank(x, "zzzzzzzzzzzz"));
    }

    @Says({"So numbers stand in their order, ahead of all words, and words as in a dictionary.",
        "That of a word begins with 2; behind that come the codes of its letters (a is 97, z is 122), and 0 in the end.",
        "Keys are ordered by their first bytes, those with the same first byte by their second ones, and so on."})
    static void termsWordsStandAsInADictionary() {
        String[] sorted = {"a", "aa", "aaz", "ab", "az", "aza", "b", "ba", "y", "yz", "z", "zz", "zzz"};
        Needlecase x = Maps.ofWords("zz", "aza", "b", "yz", "a", "zzz", "ab", "ba", "aa", "z", "az", "y", "aaz");
        for (int place = 0; place < sorted.length; place++) {
            Expect.equal(place, rank(x, sorted[place]));
        }
        x.clear();
        x.walkWords();
        for (String word : sorted) {
            Expect.yes(x.next());
            Expect.equal(word, Expect.wordHere(x));
        }
        Expect.no(x.next());
    }
}
