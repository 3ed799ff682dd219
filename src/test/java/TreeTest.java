/** Promises 21 to 28. */
final class TreeTest {
    private static final int[] SIZES = {4, 16, 48, 256};

    private TreeTest() {
    }

    /** How many nodes there are of the sizes 4, 16, 48 and 256. */
    private static void nodesAre(Needlecase x, int... counts) {
        for (int i = 0; i < SIZES.length; i++) {
            Expect.equal(counts[i], x.nodes(SIZES[i]));
        }
    }

    private static void turnsAre(Needlecase x, int grown, int shrunk) {
        Expect.equal(grown, x.grown());
        Expect.equal(shrunk, x.shrunk());
    }

    static void promise21Size() {
        Needlecase x = new Needlecase();
        Expect.equal(0, x.size());
        x.put(97, 1);
        Expect.putWord(x, "a", 1);
        Expect.equal(2, x.size());
        x.put(97, 2);
        x.putWord(2);
        Expect.equal(2, x.size());
        x.removeWord();
        Expect.equal(1, x.size());
        Expect.equal(400, Expect.full().size());
    }

    static void promise22NodesGrowAndShrink() {
        Needlecase x = new Needlecase();
        x.put(0, 1);
        nodesAre(x, 0, 0, 0, 0);
        x.put(1, 1);
        nodesAre(x, 1, 0, 0, 0);
        x.load(2, 1, 2, 1);
        nodesAre(x, 1, 0, 0, 0);
        x.put(4, 1);
        nodesAre(x, 0, 1, 0, 0);
        x.load(5, 1, 11, 1);
        nodesAre(x, 0, 1, 0, 0);
        x.put(16, 1);
        nodesAre(x, 0, 0, 1, 0);
        x.load(17, 1, 31, 1);
        nodesAre(x, 0, 0, 1, 0);
        x.put(48, 1);
        nodesAre(x, 0, 0, 0, 1);
        turnsAre(x, 3, 0);
        x.load(56, 1, 200, 1);
        nodesAre(x, 0, 0, 0, 1);
        x.load(49, 1, 7, 1);
        Expect.equal(256, x.size());
        nodesAre(x, 0, 0, 0, 1);
        turnsAre(x, 3, 0);
        Expect.equal(215, x.removeRange(41, 255));
        nodesAre(x, 0, 0, 0, 1);
        x.remove(20);
        nodesAre(x, 0, 0, 1, 0);
        turnsAre(x, 3, 1);
        x.removeRange(13, 255);
        nodesAre(x, 0, 0, 1, 0);
        x.remove(0);
        nodesAre(x, 0, 1, 0, 0);
        turnsAre(x, 3, 2);
        x.removeRange(5, 12);
        nodesAre(x, 0, 1, 0, 0);
        x.remove(4);
        nodesAre(x, 1, 0, 0, 0);
        turnsAre(x, 3, 3);
        x.remove(1);
        nodesAre(x, 1, 0, 0, 0);
        x.remove(2);
        nodesAre(x, 0, 0, 0, 0);
        turnsAre(x, 3, 3);
        Expect.equal(1, x.size());
    }

    static void promise22NodesKeepTheirSizesBetween() {
        Needlecase x = new Needlecase();
        x.load(0, 1, 49, 1);
        x.removeRange(41, 48);
        nodesAre(x, 0, 0, 0, 1);
        x.load(41, 1, 8, 1);
        turnsAre(x, 3, 0);
        x.removeRange(40, 48);
        nodesAre(x, 0, 0, 1, 0);
        x.load(40, 1, 8, 1);
        nodesAre(x, 0, 0, 1, 0);
        turnsAre(x, 3, 1);
        x.put(48, 1);
        nodesAre(x, 0, 0, 0, 1);
        turnsAre(x, 4, 1);
    }

    static void promise22NewNodesHaveTheSize4() {
        Needlecase x = new Needlecase();
        x.load(0, 1, 200, 1);
        x.removeRange(0, 199);
        x.load(0, 1, 2, 1);
        nodesAre(x, 1, 0, 0, 0);
        x.load(2, 1, 3, 1);
        nodesAre(x, 0, 1, 0, 0);
        turnsAre(x, 4, 3);
    }

    static void promise22NodesRefusesOtherSizes() {
        Needlecase x = Expect.full();
        for (int size : new int[] {0, 1, 3, 5, 15, 17, 47, 49, 255, 257, -4, Integer.MIN_VALUE, Integer.MAX_VALUE}) {
            Expect.badArgument(x, () -> x.nodes(size));
        }
        nodesAre(x, 2, 0, 0, 2);
    }

    static void promise22NodesOfWords() {
        Needlecase x = new Needlecase();
        for (char letter = 'a'; letter <= 'z'; letter++) {
            Expect.putWord(x, "" + letter, 1);
            Expect.putWord(x, "m" + letter, 1);
        }
        nodesAre(x, 0, 0, 2, 0);
        turnsAre(x, 4, 0);
        Expect.equal(2, x.height());
        Expect.equal(1, x.pathBytes());
        for (char letter = 'a'; letter <= 'z'; letter++) {
            Expect.write(x, "m" + letter);
            x.removeWord();
        }
        nodesAre(x, 0, 0, 1, 0);
        turnsAre(x, 4, 2);
        Expect.equal(1, x.height());
    }

    static void promise23Height() {
        Needlecase x = new Needlecase();
        x.put(0, 1);
        Expect.equal(0, x.height());
        x.put(1 << 24, 1);
        Expect.equal(1, x.height());
        x.put(1 << 16, 1);
        Expect.equal(2, x.height());
        x.put(1 << 8, 1);
        Expect.equal(3, x.height());
        x.put(1, 1);
        Expect.equal(4, x.height());
        Expect.putWord(x, "a", 1);
        Expect.equal(5, x.height());
        x.remove(1 << 16);
        Expect.equal(4, x.height());
        x.removeRange(Integer.MIN_VALUE, Integer.MAX_VALUE);
        Expect.equal(0, x.height());
    }

    static void promise23TheHighestTree() {
        Needlecase x = new Needlecase();
        x.put(1, 1);
        for (int count = 1; count <= 12; count++) {
            x.letter('a');
            x.putWord(count);
        }
        Expect.equal(12, x.height());
        x.back();
        x.letter('b');
        x.putWord(1);
        Expect.equal(12, x.height());
        nodesAre(x, 12, 0, 0, 0);
        Expect.equal(1, x.pathBytes());
        Expect.putWord(x, "b", 1);
        Expect.equal(13, x.height());
        nodesAre(x, 13, 0, 0, 0);
        Expect.equal(0, x.pathBytes());
        Expect.write(x, "aaaaaaaaaaab");
        Expect.equal(1, x.removeWord());
        Expect.equal(13, x.height());
        Expect.write(x, "aaaaaaaaaaaa");
        Expect.equal(12, x.removeWord());
        Expect.equal(12, x.height());
    }

    static void promise24PathBytes() {
        Needlecase x = new Needlecase();
        x.put(0, 1);
        Expect.equal(0, x.pathBytes());
        x.put(1, 1);
        Expect.equal(4, x.pathBytes());
        x.put(256, 1);
        Expect.equal(3, x.pathBytes());
        x.put(1 << 24, 1);
        Expect.equal(2, x.pathBytes());
        Expect.putWord(x, "aaaaaaaaaaaa", 1);
        Expect.equal(1, x.pathBytes());
        Expect.putWord(x, "aaaaaaaaaaab", 1);
        Expect.equal(12, x.pathBytes());
        Expect.putWord(x, "aaaaa", 1);
        Expect.equal(11, x.pathBytes());
        x.remove(256);
        Expect.equal(12, x.pathBytes());
        x.removeWord();
        Expect.equal(13, x.pathBytes());
        x.removeRange(0, 1 << 24);
        Expect.equal(12, x.pathBytes());
    }

    static void promise25Depth() {
        Needlecase x = new Needlecase();
        Expect.noSuchKey(x, () -> x.depth(0));
        x.put(0, 1);
        Expect.equal(0, x.depth(0));
        Expect.noSuchKey(x, () -> x.depth(1));
        x.put(1, 1);
        x.put(256, 1);
        x.put(1 << 24, 1);
        x.put(-1, 1);
        Expect.equal(3, x.depth(0));
        Expect.equal(3, x.depth(1));
        Expect.equal(2, x.depth(256));
        Expect.equal(1, x.depth(1 << 24));
        Expect.equal(1, x.depth(-1));
        Expect.putWord(x, "a", 1);
        Expect.equal(4, x.depth(0));
        Expect.equal(2, x.depth(-1));
        for (int missing : new int[] {2, 257, 1 << 16, (1 << 24) + 1, -2, Integer.MIN_VALUE, Integer.MAX_VALUE}) {
            Expect.noSuchKey(x, () -> x.depth(missing));
        }
    }

    static void promise26And27CountEachTurn() {
        Needlecase x = new Needlecase();
        x.load(0, 1, 200, 1);
        turnsAre(x, 3, 0);
        x.load(256, 1, 17, 1);
        turnsAre(x, 5, 0);
        x.load(0, 1, 200, 2);
        turnsAre(x, 5, 0);
        x.removeRange(0, 39);
        turnsAre(x, 5, 0);
        x.removeRange(40, 255);
        turnsAre(x, 5, 3);
        x.walk(0, 300);
        for (int i = 0; i < 17; i++) {
            x.next();
            x.removeHere();
        }
        turnsAre(x, 5, 5);
        x.load(0, 1, 5, 1);
        turnsAre(x, 6, 5);
        x.remove(0);
        turnsAre(x, 6, 5);
        x.remove(1);
        turnsAre(x, 6, 6);
    }

    static void promise26AndPromise27AreLeftByRefusedCalls() {
        Needlecase x = new Needlecase();
        x.load(0, 1, 200, 1);
        x.load(256, 1, 196, 1);
        x.load(512, 1, 4, 1);
        int grown = x.grown();
        Expect.badState(x, () -> x.put(516, 1));
        Expect.badState(x, () -> x.load(512, 1, 5, 1));
        Expect.equal(grown, x.grown());
        Expect.equal(0, x.shrunk());
        x.remove(0);
        x.put(516, 1);
        Expect.equal(grown + 1, x.grown());
    }

    static void promise28Footprint() {
        Needlecase x = new Needlecase();
        x.put(0, 1);
        Expect.equal(0, x.footprint());
        x.put(1, 1);
        Expect.equal(52 + 4, x.footprint());
        x.load(2, 1, 3, 1);
        Expect.equal(160 + 4, x.footprint());
        x.load(5, 1, 12, 1);
        Expect.equal(656 + 4, x.footprint());
        x.load(17, 1, 32, 1);
        Expect.equal(2064 + 4, x.footprint());
        x.put(256, 1);
        Expect.equal(2064 + 52 + 3, x.footprint());
        x.load(257, 1, 16, 1);
        Expect.equal(2064 + 656 + 52 + 3, x.footprint());
        x.removeRange(0, 48);
        Expect.equal(656 + 4, x.footprint());
    }
}
