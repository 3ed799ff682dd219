/** The sentences on the tree and on sizes, and promises 21 to 28: each edge by itself. */
final class TreeEdgesTest {
    private static final int LOW = Integer.MIN_VALUE;
    private static final int HIGH = Integer.MAX_VALUE;
    private static final int[] SIZES = {4, 16, 48, 256};

    private TreeEdgesTest() {
    }

    /** What all calls for the tree say; the nodes are those of the sizes 4, 16, 48 and 256. */
    private static void is(Needlecase x, String nodes, int height, int path, int grown, int shrunk, int bytes) {
        StringBuilder counted = new StringBuilder();
        for (int size : SIZES) {
            counted.append(size == 4 ? "" : " ").append(x.nodes(size));
        }
        Expect.equal(nodes, counted.toString());
        Expect.equal(height, x.height());
        Expect.equal(path, x.pathBytes());
        Expect.equal(grown, x.grown());
        Expect.equal(shrunk, x.shrunk());
        Expect.equal(bytes, x.footprint());
    }

    private static void depths(Needlecase x, int depth, int... numbers) {
        for (int number : numbers) {
            Expect.equal(depth, x.depth(number));
        }
    }

    private static void removeWord(Needlecase x, String word) {
        Expect.write(x, word);
        x.removeWord();
    }

    /** The number that hangs at a place below a root whose path has 1 to 4 bytes. */
    private static int child(int path, int place) {
        return (path == 1 ? LOW : 0) + (place << 32 - 8 * path);
    }

    /** A map whose only node is a root with that many children, all of them leaves. */
    private static Needlecase rootWith(int path, int children) {
        Needlecase x = new Needlecase();
        come(x, path, 0, children);
        return x;
    }

    private static void come(Needlecase x, int path, int first, int end) {
        for (int place = first; place < end; place += 200) {
            x.load(child(path, place), 1 << 32 - 8 * path, Math.min(200, end - place), 1);
        }
    }

    private static void go(Needlecase x, int path, int first, int end) {
        x.removeRange(child(path, first), child(path, end - 1));
    }

    /** A root for the end of the word "m" and words with one more letter; the end is a child, too. */
    private static Needlecase wordsBehindM(int children) {
        Needlecase x = new Needlecase();
        Expect.putWord(x, "m", 1);
        for (int i = 1; i < children; i++) {
            Expect.putWord(x, "m" + (char) ('a' + i - 1), 1);
        }
        return x;
    }

    // ---- the tree

    @Says({"The root is the node with the shortest branching of all; there is none with fewer than two keys.", "Each key has a leaf."})
    static void termsFewerThanTwoKeysHaveNoNode() {
        is(new Needlecase(), "0 0 0 0", 0, 0, 0, 0, 0);
        is(Maps.oneNumber(), "0 0 0 0", 0, 0, 0, 0, 0);
        is(Maps.oneWord(), "0 0 0 0", 0, 0, 0, 0, 0);
        depths(Maps.oneNumber(), 0, 7);
        is(Maps.of(LOW), "0 0 0 0", 0, 0, 0, 0, 0);
        is(Maps.of(HIGH), "0 0 0 0", 0, 0, 0, 0, 0);
    }

    @Says({"A key is a row of bytes, 0 to 255 each.",
        "That of a number begins with 1; behind that come the four bytes of the number, the highest one first, "
        + "with the highest bit of the first of these four inverted.",
        "The root is the node with the shortest branching of all; there is none with fewer than two keys."})
    static void termsTheRootOfTwoNumbers() {
        is(Maps.of(0, 1), "1 0 0 0", 1, 4, 0, 0, 56);
        is(Maps.of(0, 255), "1 0 0 0", 1, 4, 0, 0, 56);
        is(Maps.of(0, 256), "1 0 0 0", 1, 3, 0, 0, 55);
        is(Maps.of(255, 256), "1 0 0 0", 1, 3, 0, 0, 55);
        is(Maps.of(0, 65536), "1 0 0 0", 1, 2, 0, 0, 54);
        is(Maps.of(0, 1 << 24), "1 0 0 0", 1, 1, 0, 0, 53);
        is(Maps.of(-1, 0), "1 0 0 0", 1, 1, 0, 0, 53);
        is(Maps.of(LOW, HIGH), "1 0 0 0", 1, 1, 0, 0, 53);
        is(Maps.of(LOW, LOW + 1), "1 0 0 0", 1, 4, 0, 0, 56);
        is(Maps.of(HIGH, HIGH - 1), "1 0 0 0", 1, 4, 0, 0, 56);
        depths(Maps.of(LOW, HIGH), 1, LOW, HIGH);
    }

    @Says({"That of a number begins with 1; behind that come the four bytes of the number, the highest one first, "
        + "with the highest bit of the first of these four inverted.",
        "So numbers stand in their order, ahead of all words, and words as in a dictionary."})
    static void termsNumbersStandInTheirOrder() {
        int[] sorted = {LOW, LOW + 1, -(1 << 24), -65536, -256, -2, -1, 0, 1, 255, 256, 65535, 65536, 1 << 24, HIGH - 1, HIGH};
        Needlecase x = new Needlecase();
        for (int i = 0; i < sorted.length; i++) {
            x.put(sorted[i * 5 % sorted.length], 1);
        }
        for (int place = 0; place < sorted.length; place++) {
            Expect.equal(sorted[place], x.select(place));
            Expect.equal(place, x.rank(sorted[place]));
        }
        x.walk(LOW, HIGH);
        for (int number : sorted) {
            Expect.yes(x.next());
            Expect.equal(number, x.number());
        }
    }

    @Says("That of a word begins with 2; behind that come the codes of its letters (a is 97, z is 122), and 0 in the end.")
    static void termsTheRootOfTwoWords() {
        is(Maps.ofWords("a", "z"), "1 0 0 0", 1, 1, 0, 0, 53);
        is(Maps.ofWords("a", "ab"), "1 0 0 0", 1, 2, 0, 0, 54);
        is(Maps.ofWords("ab", "az"), "1 0 0 0", 1, 2, 0, 0, 54);
        is(Maps.ofWords("aaaaaaaaaaaa", "aaaaaaaaaaab"), "1 0 0 0", 1, 12, 0, 0, 64);
        is(Maps.ofWords("aaaaaaaaaaa", "aaaaaaaaaaaa"), "1 0 0 0", 1, 12, 0, 0, 64);
        is(Maps.ofWords("aaaaaaaaaaaa", "baaaaaaaaaaa"), "1 0 0 0", 1, 1, 0, 0, 53);
    }

    @Says("A row of bytes (it may be empty) is a branching if at least two keys begin with it and do not have the same byte "
        + "behind it; the tree has an inner node for each branching, and no others.")
    static void termsTheEmptyBranching() {
        Needlecase x = Maps.oneNumber();
        Expect.putWord(x, "a", 1);
        is(x, "1 0 0 0", 1, 0, 0, 0, 52);
        depths(x, 1, 7);
        x.put(8, 1);
        is(x, "2 0 0 0", 2, 3, 0, 0, 107);
        Expect.putWord(x, "abcd", 1);
        is(x, "3 0 0 0", 2, 4, 0, 0, 160);
        x.removeRange(7, 8);
        is(x, "1 0 0 0", 1, 2, 0, 0, 54);
    }

    @Says({"The root is the node with the shortest branching of all; there is none with fewer than two keys.",
        "The path of a node is what its branching has more than the branching of its parent and the byte by which it hangs there "
        + "(for the root: all of its branching); paths are stored in the nodes."})
    static void termsAKeyComesByANodeAheadOfTheRoot() {
        Needlecase x = Maps.of(0, 1);
        x.put(256, 1);
        is(x, "2 0 0 0", 2, 3, 0, 0, 107);
        depths(x, 2, 0, 1);
        depths(x, 1, 256);
        x.put(1 << 24, 1);
        is(x, "3 0 0 0", 3, 2, 0, 0, 158);
        depths(x, 3, 0, 1);
        depths(x, 2, 256);
        depths(x, 1, 1 << 24);
        Expect.putWord(x, "a", 1);
        is(x, "4 0 0 0", 4, 1, 0, 0, 209);
        depths(x, 4, 0, 1);
        depths(x, 2, 1 << 24);
    }

    @Says("The path of a node is what its branching has more than the branching of its parent and the byte by which it hangs there "
        + "(for the root: all of its branching); paths are stored in the nodes.")
    static void termsAKeyComesByANodeWithinAPath() {
        Needlecase x = Maps.of(0, 1);
        Expect.putWord(x, "a", 1);
        is(x, "2 0 0 0", 2, 3, 0, 0, 107);
        x.put(65536, 1);
        is(x, "3 0 0 0", 3, 2, 0, 0, 158);
        depths(x, 3, 0, 1);
        depths(x, 2, 65536);
        Needlecase words = Maps.ofWords("b", "abcdefghijkl", "abcdefghijkm");
        is(words, "2 0 0 0", 2, 11, 0, 0, 115);
        Expect.putWord(words, "abc", 1);
        is(words, "3 0 0 0", 3, 10, 0, 0, 166);
        Expect.putWord(words, "abcdefghijk", 1);
        is(words, "3 0 0 0", 3, 10, 0, 0, 166);
    }

    @Says("The children of a node are, for each byte that comes behind its branching in some key: the node with the shortest "
        + "branching that begins with the branching and this byte, or, if only one key begins with these, the leaf of that key.")
    static void termsAKeyComesByANodeBelow() {
        Needlecase x = Maps.of(0, 256);
        x.put(1, 1);
        is(x, "2 0 0 0", 2, 3, 0, 0, 107);
        depths(x, 2, 0, 1);
        depths(x, 1, 256);
        Needlecase far = Maps.of(0, 1 << 24);
        far.put((1 << 24) + 1, 1);
        is(far, "2 0 0 0", 2, 3, 0, 0, 107);
        depths(far, 1, 0);
        depths(far, 2, 1 << 24, (1 << 24) + 1);
        Needlecase words = Maps.ofWords("a", "b");
        Expect.putWord(words, "bb", 1);
        is(words, "2 0 0 0", 2, 1, 0, 0, 105);
    }

    @Says("A row of bytes (it may be empty) is a branching if at least two keys begin with it and do not have the same byte "
        + "behind it; the tree has an inner node for each branching, and no others.")
    static void termsAKeyComesWithoutANode() {
        Needlecase x = Maps.of(0, 1, 256);
        x.put(2, 1);
        is(x, "2 0 0 0", 2, 3, 0, 0, 107);
        depths(x, 2, 2);
        x.put(512, 1);
        is(x, "2 0 0 0", 2, 3, 0, 0, 107);
        depths(x, 1, 512);
    }

    @Says("If a key goes and a node would have one child left by that, the node goes, too; this is no shrinking.")
    static void termsANodeGoesAndALeafIsLeft() {
        Needlecase x = Maps.of(0, 1, 256);
        x.remove(0);
        is(x, "1 0 0 0", 1, 3, 0, 0, 55);
        depths(x, 1, 1, 256);
        Needlecase words = Maps.ofWords("a", "ab", "b");
        removeWord(words, "ab");
        is(words, "1 0 0 0", 1, 1, 0, 0, 53);
    }

    @Says("If a key goes and a node would have one child left by that, the node goes, too; this is no shrinking.")
    static void termsTheRootGoesAndANodeIsLeft() {
        Needlecase x = Maps.of(0, 1, 65536);
        is(x, "2 0 0 0", 2, 3, 0, 0, 107);
        x.remove(65536);
        is(x, "1 0 0 0", 1, 4, 0, 0, 56);
        depths(x, 1, 0, 1);
        Needlecase y = Maps.of(0, 1);
        Expect.putWord(y, "a", 1);
        y.removeWord();
        is(y, "1 0 0 0", 1, 4, 0, 0, 56);
    }

    @Says("If a key goes and a node would have one child left by that, the node goes, too; this is no shrinking.")
    static void termsANodeGoesFromBetweenTwo() {
        Needlecase x = Maps.of(0, 1, 65536);
        Expect.putWord(x, "a", 1);
        is(x, "3 0 0 0", 3, 2, 0, 0, 158);
        x.remove(65536);
        is(x, "2 0 0 0", 2, 3, 0, 0, 107);
        depths(x, 2, 0, 1);
        x.remove(0);
        is(x, "1 0 0 0", 1, 0, 0, 0, 52);
        depths(x, 1, 1);
    }

    @Says({"If a key goes and a node would have one child left by that, the node goes, too; this is no shrinking.",
        "The root is the node with the shortest branching of all; there is none with fewer than two keys."})
    static void termsTheLastNodeGoes() {
        Needlecase x = Maps.of(LOW, HIGH);
        x.remove(LOW);
        is(x, "0 0 0 0", 0, 0, 0, 0, 0);
        depths(x, 0, HIGH);
        x.put(LOW, 1);
        is(x, "1 0 0 0", 1, 1, 0, 0, 53);
        x.removeRange(LOW, HIGH);
        is(x, "0 0 0 0", 0, 0, 0, 0, 0);
        Needlecase walked = Maps.of(0, 1);
        walked.walk(0, 1);
        walked.next();
        walked.removeHere();
        is(walked, "0 0 0 0", 0, 0, 0, 0, 0);
        Needlecase words = Maps.ofWords("a", "ab");
        removeWord(words, "a");
        is(words, "0 0 0 0", 0, 0, 0, 0, 0);
    }

    @Says("If a key goes and a node would have one child left by that, the node goes, too; this is no shrinking.")
    static void termsANodeThatHadGrownGoesWithoutAShrinking() {
        Needlecase x = rootWith(4, 5);
        go(x, 4, 3, 5);
        is(x, "1 0 0 0", 1, 4, 1, 1, 56);
        x.remove(0);
        is(x, "1 0 0 0", 1, 4, 1, 1, 56);
        x.remove(1);
        is(x, "0 0 0 0", 0, 0, 1, 1, 0);
        x.remove(2);
        is(x, "0 0 0 0", 0, 0, 1, 1, 0);
    }

    // ---- growing

    @Says({"A node has the size 4, 16, 48 or 256, for that many children at most.", "A new node has the size 4.",
        "If a key comes by which a node would have more children than its size, it grows to the next size."})
    static void termsTheFifthChild() {
        for (int path = 1; path <= 4; path++) {
            Needlecase x = rootWith(path, 4);
            is(x, "1 0 0 0", 1, path, 0, 0, 52 + path);
            x.put(child(path, 4), 1);
            is(x, "0 1 0 0", 1, path, 1, 0, 160 + path);
            depths(x, 1, child(path, 0), child(path, 4));
        }
    }

    @Says({"A node has the size 4, 16, 48 or 256, for that many children at most.",
        "If a key comes by which a node would have more children than its size, it grows to the next size."})
    static void termsTheSeventeenthChild() {
        for (int path = 1; path <= 4; path++) {
            Needlecase x = rootWith(path, 16);
            is(x, "0 1 0 0", 1, path, 1, 0, 160 + path);
            x.put(child(path, 16), 1);
            is(x, "0 0 1 0", 1, path, 2, 0, 656 + path);
            depths(x, 1, child(path, 0), child(path, 16));
        }
    }

    @Says({"A node has the size 4, 16, 48 or 256, for that many children at most.",
        "If a key comes by which a node would have more children than its size, it grows to the next size."})
    static void termsTheFortyNinthChild() {
        for (int path = 1; path <= 4; path++) {
            Needlecase x = rootWith(path, 48);
            is(x, "0 0 1 0", 1, path, 2, 0, 656 + path);
            x.put(child(path, 48), 1);
            is(x, "0 0 0 1", 1, path, 3, 0, 2064 + path);
            depths(x, 1, child(path, 0), child(path, 48));
        }
    }

    @Says("A node has the size 4, 16, 48 or 256, for that many children at most.")
    static void termsAllChildrenThatANodeCanHave() {
        for (int path = 1; path <= 4; path++) {
            Needlecase x = rootWith(path, 256);
            Expect.equal(256, x.size());
            is(x, "0 0 0 1", 1, path, 3, 0, 2064 + path);
            depths(x, 1, child(path, 0), child(path, 127), child(path, 128), child(path, 255));
        }
    }

    @Says("If a key comes by which a node would have more children than its size, it grows to the next size.")
    static void termsChildrenOfAWordsNode() {
        is(wordsBehindM(4), "1 0 0 0", 1, 2, 0, 0, 54);
        is(wordsBehindM(5), "0 1 0 0", 1, 2, 1, 0, 162);
        is(wordsBehindM(16), "0 1 0 0", 1, 2, 1, 0, 162);
        is(wordsBehindM(17), "0 0 1 0", 1, 2, 2, 0, 658);
        is(wordsBehindM(27), "0 0 1 0", 1, 2, 2, 0, 658);
    }

    @Says("If a key comes by which a node would have more children than its size, it grows to the next size.")
    static void termsAChildThatIsANodeCountsOnce() {
        Needlecase x = rootWith(3, 4);
        for (int place = 0; place < 4; place++) {
            x.load(child(3, place) + 1, 1, 3, 1);
        }
        is(x, "5 0 0 0", 2, 3, 0, 0, 263);
        x.put(child(3, 4), 1);
        is(x, "4 1 0 0", 2, 3, 1, 0, 371);
        x.put(4, 1);
        is(x, "3 2 0 0", 2, 3, 2, 0, 479);
    }

    @Says("A new node has the size 4.")
    static void termsANewNodeBesideAGreatOne() {
        Needlecase x = rootWith(4, 49);
        x.put(256, 1);
        is(x, "1 0 0 1", 2, 3, 3, 0, 2064 + 52 + 3);
        Expect.putWord(x, "a", 1);
        is(x, "2 0 0 1", 3, 2, 3, 0, 2064 + 104 + 2);
        x.remove(256);
        is(x, "1 0 0 1", 2, 3, 3, 0, 2064 + 52 + 3);
        x.removeWord();
        is(x, "0 0 0 1", 1, 4, 3, 0, 2064 + 4);
    }

    @Says("A new node has the size 4.")
    static void termsANewNodeWhereAGreatOneWent() {
        Needlecase x = rootWith(4, 256);
        go(x, 4, 1, 256);
        is(x, "0 0 0 0", 0, 0, 3, 3, 0);
        x.put(1, 1);
        is(x, "1 0 0 0", 1, 4, 3, 3, 56);
        come(x, 4, 2, 4);
        is(x, "1 0 0 0", 1, 4, 3, 3, 56);
        x.put(4, 1);
        is(x, "0 1 0 0", 1, 4, 4, 3, 164);
    }

    @Says("A new node has the size 4.")
    static void termsSeveralNewNodesWhereSeveralWent() {
        Needlecase once = twentyForks(1);
        Needlecase again = twentyForks(2);
        is(once, "40 0 1 0", 3, 2, 2, 0, 40 * 52 + 656 + 2);
        is(again, "40 0 1 0", 3, 2, 4, 2, 40 * 52 + 656 + 2);
        depths(again, 3, 0, 1, 19 << 16, (19 << 16) + 1);
        depths(again, 2, 512, (19 << 16) + 512);
        once.walk(LOW, HIGH);
        again.walk(LOW, HIGH);
        for (int place = 0; place < 60; place++) {
            Expect.yes(once.next() && again.next());
            Expect.equal(once.number(), again.number());
            Expect.equal(once.value(), again.value());
        }
        Expect.no(once.next() || again.next());
    }

    /** Under the root 20 nodes of two children, each with one more node below; made anew some times. */
    private static Needlecase twentyForks(int times) {
        Needlecase x = new Needlecase();
        for (int time = 0; time < times; time++) {
            x.removeRange(LOW, HIGH);
            x.load(0, 1 << 16, 20, 1);
            x.load(1, 1 << 16, 20, 2);
            x.load(512, 1 << 16, 20, 3);
        }
        return x;
    }

    @Says("All other nodes keep their sizes.")
    static void termsAnotherValueLetsNoNodeGrow() {
        for (int children : new int[] {4, 16, 48}) {
            Twins.alike(() -> rootWith(4, children), () -> {
                Needlecase x = rootWith(4, children);
                x.put(0, 2);
                x.put(children - 1, 3);
                x.load(0, 1, children, 1);
                return x;
            });
        }
    }

    @Says("A call that throws an exception changes nothing.")
    static void termsARefusedKeyLetsNoNodeGrow() {
        for (int children : new int[] {4, 16, 48}) {
            Twins.badState(() -> {
                Needlecase x = new Needlecase();
                x.load(0, 1, 200, 1);
                x.load(256, 1, 200 - children, 1);
                x.load(512, 1, children, 1);
                return x;
            }, x -> x.put(512 + children, 1), x -> x.load(512, 1, children + 1, 2));
        }
    }

    // ---- shrinking

    private static final String SHRINKS = "If a key goes, and a node of the size 256 has 40 children left by that, "
        + "one of 48 has 12, or one of 16 has 3, it shrinks to the next lower size.";

    @Says(SHRINKS)
    static void termsFortyChildrenAreLeft() {
        for (int path = 1; path <= 4; path++) {
            Needlecase x = rootWith(path, 49);
            go(x, path, 41, 49);
            is(x, "0 0 0 1", 1, path, 3, 0, 2064 + path);
            x.remove(child(path, 20));
            is(x, "0 0 1 0", 1, path, 3, 1, 656 + path);
            x.remove(child(path, 21));
            is(x, "0 0 1 0", 1, path, 3, 1, 656 + path);
        }
    }

    @Says(SHRINKS)
    static void termsTwelveChildrenAreLeft() {
        for (int path = 1; path <= 4; path++) {
            Needlecase x = rootWith(path, 17);
            go(x, path, 0, 4);
            is(x, "0 0 1 0", 1, path, 2, 0, 656 + path);
            x.remove(child(path, 16));
            is(x, "0 1 0 0", 1, path, 2, 1, 160 + path);
            x.remove(child(path, 15));
            is(x, "0 1 0 0", 1, path, 2, 1, 160 + path);
        }
    }

    @Says(SHRINKS)
    static void termsThreeChildrenAreLeft() {
        for (int path = 1; path <= 4; path++) {
            Needlecase x = rootWith(path, 5);
            x.remove(child(path, 2));
            is(x, "0 1 0 0", 1, path, 1, 0, 160 + path);
            x.remove(child(path, 4));
            is(x, "1 0 0 0", 1, path, 1, 1, 52 + path);
            x.remove(child(path, 0));
            is(x, "1 0 0 0", 1, path, 1, 1, 52 + path);
        }
    }

    @Says(SHRINKS)
    static void termsANodeShrinksThroughAllSizesInOneCall() {
        for (int path = 1; path <= 4; path++) {
            Needlecase x = rootWith(path, 256);
            go(x, path, 3, 256);
            is(x, "1 0 0 0", 1, path, 3, 3, 52 + path);
        }
    }

    @Says(SHRINKS)
    static void termsAWordsNodeShrinks() {
        Needlecase x = wordsBehindM(17);
        for (int i = 0; i < 4; i++) {
            removeWord(x, "m" + (char) ('a' + i));
        }
        is(x, "0 0 1 0", 1, 2, 2, 0, 658);
        removeWord(x, "m");
        is(x, "0 1 0 0", 1, 2, 2, 1, 162);
        for (int i = 4; i < 12; i++) {
            removeWord(x, "m" + (char) ('a' + i));
        }
        is(x, "0 1 0 0", 1, 2, 2, 1, 162);
        removeWord(x, "mm");
        is(x, "1 0 0 0", 1, 2, 2, 2, 54);
    }

    @Says(SHRINKS)
    static void termsANodeShrinksByRemoveHere() {
        int[] children = {49, 17, 5};
        int[] left = {40, 12, 3};
        String[] before = {"0 0 0 1", "0 0 1 0", "0 1 0 0"};
        String[] after = {"0 0 1 0", "0 1 0 0", "1 0 0 0"};
        int[] bytes = {2068, 660, 164, 56};
        for (int i = 0; i < children.length; i++) {
            Needlecase x = rootWith(4, children[i]);
            x.walk(LOW, HIGH);
            for (int count = children[i]; count > left[i]; count--) {
                is(x, before[i], 1, 4, 3 - i, 0, bytes[i]);
                x.next();
                x.removeHere();
            }
            is(x, after[i], 1, 4, 3 - i, 1, bytes[i + 1]);
        }
    }

    @Says("All other nodes keep their sizes.")
    static void termsNodesJustAboveKeepTheirSizes() {
        Needlecase x = rootWith(4, 256);
        go(x, 4, 41, 256);
        is(x, "0 0 0 1", 1, 4, 3, 0, 2068);
        go(x, 4, 13, 41);
        is(x, "0 0 1 0", 1, 4, 3, 1, 660);
        go(x, 4, 4, 13);
        is(x, "0 1 0 0", 1, 4, 3, 2, 164);
        go(x, 4, 2, 4);
        is(x, "1 0 0 0", 1, 4, 3, 3, 56);
    }

    @Says("All other nodes keep their sizes.")
    static void termsANodeThatDidNotShrinkDoesNotGrowAgain() {
        Needlecase x = rootWith(4, 49);
        go(x, 4, 41, 49);
        come(x, 4, 41, 49);
        is(x, "0 0 0 1", 1, 4, 3, 0, 2068);
        Needlecase y = rootWith(4, 17);
        go(y, 4, 13, 17);
        come(y, 4, 13, 17);
        is(y, "0 0 1 0", 1, 4, 2, 0, 660);
        Needlecase z = rootWith(4, 5);
        z.remove(4);
        z.put(4, 1);
        is(z, "0 1 0 0", 1, 4, 1, 0, 164);
    }

    @Says("All other nodes keep their sizes.")
    static void termsANodeThatShrankGrowsAtItsSize() {
        Needlecase x = rootWith(4, 49);
        go(x, 4, 40, 49);
        come(x, 4, 40, 48);
        is(x, "0 0 1 0", 1, 4, 3, 1, 660);
        x.put(48, 1);
        is(x, "0 0 0 1", 1, 4, 4, 1, 2068);
        go(x, 4, 12, 49);
        come(x, 4, 12, 16);
        is(x, "0 1 0 0", 1, 4, 4, 3, 164);
        x.put(16, 1);
        is(x, "0 0 1 0", 1, 4, 5, 3, 660);
        go(x, 4, 3, 17);
        x.put(3, 1);
        is(x, "1 0 0 0", 1, 4, 5, 5, 56);
        x.put(4, 1);
        is(x, "0 1 0 0", 1, 4, 6, 5, 164);
    }

    @Says("All other nodes keep their sizes.")
    static void termsTheNodesBesideAndAboveKeepTheirSizes() {
        Needlecase x = new Needlecase();
        x.load(0, 1, 5, 1);
        x.load(256, 1, 5, 1);
        is(x, "1 2 0 0", 2, 3, 2, 0, 375);
        x.removeRange(3, 4);
        is(x, "2 1 0 0", 2, 3, 2, 1, 267);
        x.removeRange(0, 1);
        is(x, "1 1 0 0", 2, 3, 2, 1, 215);
        x.remove(2);
        is(x, "0 1 0 0", 1, 4, 2, 1, 164);
    }

    @Says(SHRINKS)
    static void termsAChildThatWasANodeGoesWithItsLastKey() {
        Needlecase x = rootWith(3, 5);
        x.remove(child(3, 4));
        x.put(1, 1);
        is(x, "1 1 0 0", 2, 3, 1, 0, 215);
        x.remove(0);
        is(x, "0 1 0 0", 1, 3, 1, 0, 163);
        x.remove(1);
        is(x, "1 0 0 0", 1, 3, 1, 1, 55);
    }

    // ---- promise 21

    @Says("Returns the number of keys.")
    static void promise21OfAnEmptyAndAFullMap() {
        Expect.equal(0, new Needlecase().size());
        Expect.equal(1, Maps.oneNumber().size());
        Expect.equal(1, Maps.oneWord().size());
        Expect.equal(13, Maps.mixed().size());
        Expect.equal(399, Maps.roomForOne().size());
        Expect.equal(400, Maps.full().size());
        Expect.equal(400, Maps.fullOfNumbers().size());
    }

    @Says("Returns the number of keys.")
    static void promise21BehindEachCallThatBringsAndTakesKeys() {
        Needlecase x = new Needlecase();
        x.put(0, 1);
        x.put(0, 2);
        Expect.equal(1, x.size());
        x.load(0, 1, 3, 1);
        Expect.equal(3, x.size());
        Expect.putWord(x, "a", 1);
        x.putWord(2);
        Expect.equal(4, x.size());
        x.removeWord();
        Expect.equal(3, x.size());
        x.remove(0);
        Expect.equal(2, x.size());
        x.walk(1, 1);
        x.next();
        x.removeHere();
        Expect.equal(1, x.size());
        x.removeRange(0, 9);
        Expect.equal(0, x.size());
    }

    // ---- promise 22

    @Says({"Counts the inner nodes of a size.", "Returns how many."})
    static void promise22OfAnEmptyAndAFullMap() {
        is(new Needlecase(), "0 0 0 0", 0, 0, 0, 0, 0);
        is(Maps.full(), "2 0 0 2", 3, 2, 6, 0, 2 * 52 + 2 * 2064 + 2);
        is(Maps.fullOfNumbers(), "1 0 0 2", 2, 3, 6, 0, 52 + 2 * 2064 + 3);
    }

    @Says({"Counts the inner nodes of a size.", "size: 4, 16, 48 or 256"})
    static void promise22OneNodeOfEachSizeAndTheirRoot() {
        Needlecase x = new Needlecase();
        x.load(0, 1, 49, 1);
        x.load(256, 1, 48, 1);
        x.load(512, 1, 16, 1);
        x.load(768, 1, 4, 1);
        is(x, "2 1 1 1", 2, 3, 6, 0, 2 * 52 + 160 + 656 + 2064 + 3);
    }

    @Says({"size: 4, 16, 48 or 256", "Throws IllegalArgumentException if size is another number"})
    static void promise22ASizeThatIsNoneOfTheFour() {
        for (int size : new int[] {0, 1, 2, 3, 5, 12, 15, 17, 32, 40, 47, 49, 64, 255, 257, 260, -4, -256, LOW, HIGH, 4 + (1 << 16)}) {
            Twins.badArgument(Needlecase::new, x -> x.nodes(size));
            Twins.badArgument(Maps::walkingWords, x -> x.nodes(size));
        }
        Twins.badArgument(Maps::full, x -> x.nodes(0), x -> x.nodes(255));
    }

    @Says("Counts the inner nodes of a size.")
    static void promise22AsManyNodesAsKeysAllow() {
        Needlecase x = new Needlecase();
        x.load(0, 1 << 16, 200, 1);
        x.load(1, 1 << 16, 200, 1);
        is(x, "200 0 0 1", 2, 202, 3, 0, 200 * 52 + 2064 + 202);
        Needlecase y = new Needlecase();
        for (int i = 0; i < 16; i++) {
            y.put((i & 8) << 21 | (i & 4) << 14 | (i & 2) << 7 | i & 1, 1);
        }
        is(y, "15 0 0 0", 4, 1, 0, 0, 15 * 52 + 1);
    }

    // ---- promise 23

    @Says("Returns the greatest number of inner nodes on the way from the root to a leaf, the root among them.")
    static void promise23OfNoneOneAndTwoKeys() {
        Expect.equal(0, new Needlecase().height());
        Expect.equal(0, Maps.oneNumber().height());
        Expect.equal(0, Maps.oneWord().height());
        Expect.equal(1, Maps.of(0, 1).height());
        Expect.equal(1, Maps.of(LOW, HIGH).height());
    }

    @Says("Returns the greatest number of inner nodes on the way from the root to a leaf, the root among them.")
    static void promise23TheHighestTrees() {
        Needlecase numbers = Maps.of(0, 1, 256, 65536, 1 << 24);
        Expect.equal(4, numbers.height());
        Needlecase x = Maps.ofWords("aaaaaaaaaaaa", "aaaaaaaaaaa", "aaaaaaaaaa", "aaaaaaaaa", "aaaaaaaa", "aaaaaaa", "aaaaaa",
            "aaaaa", "aaaa", "aaa", "aa", "a", "b");
        is(x, "12 0 0 0", 12, 1, 0, 0, 12 * 52 + 1);
        x.put(0, 1);
        is(x, "13 0 0 0", 13, 0, 0, 0, 13 * 52);
        depths(x, 1, 0);
        removeWord(x, "aaaaaaaaaaa");
        is(x, "12 0 0 0", 12, 0, 0, 0, 12 * 52);
    }

    // ---- promise 24

    @Says("Returns the number of bytes in the paths of all inner nodes.")
    static void promise24OfNoneAndOneKey() {
        Expect.equal(0, new Needlecase().pathBytes());
        Expect.equal(0, Maps.oneNumber().pathBytes());
        Expect.equal(0, Maps.oneWord().pathBytes());
    }

    @Says("Returns the number of bytes in the paths of all inner nodes.")
    static void promise24TheShortestAndTheLongestPath() {
        Needlecase x = Maps.ofWords("zzzzzzzzzzzz", "zzzzzzzzzzzy");
        Expect.equal(12, x.pathBytes());
        x.put(0, 1);
        Expect.equal(11, x.pathBytes());
        Expect.putWord(x, "z", 1);
        Expect.equal(10, x.pathBytes());
        Expect.putWord(x, "zzz", 1);
        Expect.equal(9, x.pathBytes());
        Expect.putWord(x, "zz", 1);
        Expect.equal(8, x.pathBytes());
        removeWord(x, "zzzzzzzzzzzz");
        Expect.equal(1, x.pathBytes());
        removeWord(x, "z");
        Expect.equal(2, x.pathBytes());
    }

    // ---- promise 25

    @Says({"Returns the number of inner nodes on the way from the root to the leaf of a number, the root among them.",
        "key: the number", "Returns how many."})
    static void promise25OfOneKeyAndOfMany() {
        depths(Maps.oneNumber(), 0, 7);
        Needlecase x = Maps.mixed();
        depths(x, 2, LOW, -1, HIGH);
        depths(x, 3, 70000);
        depths(x, 4, 300);
        depths(x, 5, 0, 1, 2);
        depths(Maps.full(), 3, 0, 255, 256, 398);
        depths(Maps.fullOfNumbers(), 2, 0, 399);
    }

    @Says("Throws NoSuchElementException if the number is not in the map")
    static void promise25MissingNumbers() {
        Twins.noSuchKey(Needlecase::new, x -> x.depth(0), x -> x.depth(LOW), x -> x.depth(HIGH));
        Twins.noSuchKey(Maps::oneNumber, x -> x.depth(6), x -> x.depth(7 + 256));
        Twins.noSuchKey(Maps::oneWord, x -> x.depth(0), x -> x.depth('a'));
        Twins.noSuchKey(Maps::walkingNumbers, x -> x.depth(3), x -> x.depth(44), x -> x.depth(LOW + 1), x -> x.depth(HIGH - 1));
        Twins.noSuchKey(Maps::full, x -> x.depth(-1), x -> x.depth(399), x -> x.depth(512));
    }

    @Says("Throws NoSuchElementException if the number is not in the map")
    static void promise25ANumberThatWasTakenOut() {
        Twins.noSuchKey(() -> {
            Needlecase x = Maps.walkingNumbers();
            x.remove(1);
            return x;
        }, x -> x.depth(1));
    }

    // ---- promises 26 and 27

    @Says({"Returns how often a node grew.", "Returns how often a node shrank."})
    static void promise26And27OfNodesThatWentSince() {
        Needlecase x = new Needlecase();
        for (int round = 1; round <= 5; round++) {
            x.load(0, 1, 200, 1);
            Expect.equal(3 * round, x.grown());
            x.removeRange(0, 199);
            Expect.equal(3 * round, x.shrunk());
        }
        is(x, "0 0 0 0", 0, 0, 15, 15, 0);
    }

    @Says("Returns how often a node grew.")
    static void promise26SeveralNodesInOneCall() {
        Needlecase x = new Needlecase();
        Expect.equal(200, x.load(0, 16, 200, 1));
        // 12 nodes with 16 children, one with 8, and a root with these 13.
        is(x, "0 14 0 0", 2, 3, 14, 0, 14 * 160 + 3);
    }

    @Says("Returns how often a node shrank.")
    static void promise27SeveralNodesInOneCall() {
        Needlecase x = new Needlecase();
        for (int place = 0; place < 4; place++) {
            x.load(256 * place, 1, 17, 1);
        }
        is(x, "1 0 4 0", 2, 3, 8, 0, 52 + 4 * 656 + 3);
        Expect.equal(68 - 7 - 12, x.removeRange(7, 768 + 4));
        is(x, "1 2 0 0", 2, 3, 8, 6, 52 + 2 * 160 + 3);
    }

    // ---- promise 28

    private static final String BYTES = "Returns the bytes of all inner nodes: one of the size 4 takes 52 bytes, of 16 160, "
        + "of 48 656, of 256 2064, each with its path, of which each byte takes one more.";

    @Says(BYTES)
    static void promise28OfNoneAndOneKey() {
        Expect.equal(0, new Needlecase().footprint());
        Expect.equal(0, Maps.oneNumber().footprint());
        Expect.equal(0, Maps.oneWord().footprint());
    }

    @Says(BYTES)
    static void promise28EachSizeWithoutAndWithAPath() {
        int[] children = {2, 4, 5, 16, 17, 48, 49, 200};
        int[] bytes = {52, 52, 160, 160, 656, 656, 2064, 2064};
        for (int i = 0; i < children.length; i++) {
            Needlecase x = rootWith(4, children[i]);
            Expect.equal(bytes[i] + 4, x.footprint());
            x.put(256, 1);
            Expect.equal(bytes[i] + 52 + 3, x.footprint());
            x.put(1 << 16, 1);
            Expect.equal(bytes[i] + 2 * 52 + 2, x.footprint());
        }
    }

    @Says(BYTES)
    static void promise28OfAFullMap() {
        Expect.equal(4234, Maps.full().footprint());
        Expect.equal(4183, Maps.fullOfNumbers().footprint());
    }
}
