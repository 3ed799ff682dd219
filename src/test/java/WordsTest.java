/** Promises 13 to 20. */
final class WordsTest {
    private WordsTest() {
    }

    private static Needlecase with(String... words) {
        Needlecase x = new Needlecase();
        for (int i = 0; i < words.length; i++) {
            Expect.putWord(x, words[i], i);
        }
        x.clear();
        return x;
    }

    static void promise13LetterCountsTheLetters() {
        Needlecase x = new Needlecase();
        for (int count = 1; count <= 12; count++) {
            Expect.equal(count, x.letter(count % 2 == 0 ? 'a' : 'z'));
        }
        Expect.badState(x, () -> x.letter('a'));
        Expect.badArgument(x, () -> x.letter('A'));
        Expect.equal(11, x.back());
        Expect.equal(12, x.letter('m'));
        x.putWord(5);
        x.clear();
        x.walkWords();
        Expect.yes(x.next());
        Expect.equal("zazazazazazm", Expect.wordHere(x));
    }

    static void promise13LetterRefusesOtherSigns() {
        Needlecase x = new Needlecase();
        x.letter('b');
        for (int sign : new int[] {0, 'a' - 1, 'z' + 1, 'A', 'Z', '0', ' ', 233, 0x161, 0xffff}) {
            Expect.badArgument(x, () -> x.letter((char) sign));
        }
        Expect.equal(2, x.letter('c'));
    }

    static void promise14BackWipesOutTheLastLetter() {
        Needlecase x = with("ab", "abc");
        Expect.badState(x, x::back);
        Expect.write(x, "abc");
        Expect.equal(1, x.getWord());
        Expect.equal(2, x.back());
        Expect.equal(0, x.getWord());
        Expect.equal(1, x.back());
        Expect.noSuchKey(x, x::getWord);
        Expect.equal(0, x.back());
        Expect.badState(x, x::back);
        Expect.equal(1, x.letter('x'));
    }

    static void promise15ClearWipesOutAllLetters() {
        Needlecase x = with("ab", "c");
        Expect.write(x, "abcdefghijkl");
        x.clear();
        Expect.badState(x, x::back);
        Expect.equal(2, x.countWords());
        Expect.equal(1, x.letter('c'));
        Expect.equal(1, x.getWord());
        x.clear();
        x.clear();
        Expect.equal(1, x.letter('a'));
        Expect.equal(2, x.size());
    }

    static void promise16PutWordSaysWhetherTheWordIsNew() {
        Needlecase x = new Needlecase();
        Expect.badState(x, () -> x.putWord(1));
        Expect.write(x, "needle");
        Expect.yes(x.putWord(Integer.MIN_VALUE));
        Expect.equal(Integer.MIN_VALUE, x.getWord());
        Expect.no(x.putWord(Integer.MAX_VALUE));
        Expect.equal(Integer.MAX_VALUE, x.getWord());
        Expect.equal(1, x.size());
        x.letter('s');
        Expect.yes(x.putWord(2));
        x.back();
        Expect.equal(Integer.MAX_VALUE, x.getWord());
        Expect.equal(2, x.size());
    }

    static void promise16PutWordWithOneAndTwelveLetters() {
        Needlecase x = new Needlecase();
        Expect.yes(Expect.putWord(x, "a", 1));
        Expect.yes(Expect.putWord(x, "z", 2));
        Expect.yes(Expect.putWord(x, "aaaaaaaaaaaa", 3));
        Expect.yes(Expect.putWord(x, "aaaaaaaaaaab", 4));
        Expect.yes(Expect.putWord(x, "zzzzzzzzzzzz", 5));
        Expect.equal(5, x.getWord());
        Expect.write(x, "aaaaaaaaaaaa");
        Expect.equal(3, x.getWord());
        Expect.write(x, "a");
        Expect.equal(1, x.getWord());
    }

    static void promise16PutWordIntoAFullMap() {
        Needlecase x = Expect.full();
        Expect.no(x.putWord(9));
        Expect.equal(9, x.getWord());
        x.letter('b');
        Expect.badState(x, () -> x.putWord(1));
        x.remove(17);
        Expect.yes(x.putWord(1));
        x.letter('c');
        Expect.badState(x, () -> x.putWord(1));
        x.clear();
        Expect.badState(x, () -> x.putWord(1));
    }

    static void promise17GetWordOfAMissingWord() {
        Needlecase x = new Needlecase();
        Expect.noSuchKey(x, x::getWord);
        Expect.putWord(x, "abc", 1);
        for (String missing : new String[] {"", "a", "ab", "abd", "abcd", "b"}) {
            Expect.write(x, missing);
            Expect.noSuchKey(x, x::getWord);
        }
        Expect.putWord(x, "abd", 2);
        for (String missing : new String[] {"", "ab", "abe", "abcc", "bbc"}) {
            Expect.write(x, missing);
            Expect.noSuchKey(x, x::getWord);
        }
        Expect.write(x, "abc");
        Expect.equal(1, x.getWord());
    }

    static void promise18RemoveWordReturnsTheValue() {
        Needlecase x = with("a", "ab", "abc", "b");
        Expect.noSuchKey(x, x::removeWord);
        Expect.write(x, "ab");
        Expect.equal(1, x.removeWord());
        Expect.noSuchKey(x, x::removeWord);
        Expect.noSuchKey(x, x::getWord);
        Expect.equal(3, x.size());
        Expect.equal(1, x.countWords());
        x.letter('c');
        Expect.equal(2, x.getWord());
        Expect.write(x, "a");
        Expect.equal(0, x.removeWord());
        Expect.write(x, "abc");
        Expect.equal(2, x.removeWord());
        Expect.write(x, "b");
        Expect.equal(3, x.removeWord());
        Expect.equal(0, x.size());
        Expect.noSuchKey(x, x::removeWord);
        Expect.yes(x.putWord(4));
    }

    static void promise19CountWords() {
        Needlecase x = with("a", "ab", "abc", "abd", "b", "zzzzzzzzzzzz");
        x.load(97, 1, 30, 1);
        Expect.equal(6, x.countWords());
        String[] beginnings = {"a", "ab", "abc", "abcd", "ac", "b", "c", "z", "zzzzzzzzzzzz", "zzzzzzzzzzza"};
        int[] counts = {4, 3, 1, 0, 0, 1, 0, 1, 1, 0};
        for (int i = 0; i < beginnings.length; i++) {
            Expect.write(x, beginnings[i]);
            Expect.equal(counts[i], x.countWords());
        }
    }

    static void promise20RankWord() {
        Needlecase x = with("b", "bb", "bbb", "c", "zzzzzzzzzzzz");
        x.load(-15, 1, 30, 1);
        String[] words = {"", "a", "b", "ba", "bb", "bba", "bbb", "bbc", "c", "d", "zzzzzzzzzzzz"};
        int[] ranks = {0, 0, 0, 1, 1, 2, 2, 3, 3, 4, 4};
        for (int i = 0; i < words.length; i++) {
            Expect.write(x, words[i]);
            Expect.equal(ranks[i], x.rankWord());
        }
        x.removeRange(-15, 15);
        Expect.equal(4, x.rankWord());
    }
}
