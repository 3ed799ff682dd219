import java.util.ConcurrentModificationException;
import java.util.NoSuchElementException;

/** An ordered map from keys to ints, kept in an adaptive radix tree. */
public final class Needlecase {
    private static final int MOST_KEYS = 400;
    private static final int MOST_LOADED = 200;
    private static final int MOST_LETTERS = 12;
    private static final int NUMBER_BYTES = 4;
    private static final int NUMBER = 1;
    private static final int WORD = 2;
    private static final int WORD_END = 0;
    private static final int NO_BYTE = -1;

    /** A word's first byte, its letters and its end; no way through the tree is longer either. */
    private static final int LONGEST_KEY = MOST_LETTERS + 2;

    private static final int SIZE_4 = 4;
    private static final int SIZE_16 = 16;
    private static final int SIZE_48 = 48;
    private static final int SIZE_256 = 256;

    /** The first step of a search by halves; steps from here down to 1 reach 511 places. */
    private static final int WIDEST_STEP = 256;

    private final Tree tree = new Tree();
    private final Listing listing = new Listing();
    private final Key asked = new Key();
    private final Key written = new Key();

    private boolean walkBegun;
    private int walkChanges;
    private int walkNext;
    private int walkEnd;
    private Leaf here;

    public Needlecase() {
        written.spellEmptyWord();
    }

    // ---- numbers

    public boolean put(int key, int value) throws IllegalStateException {
        asked.spellNumber(key);
        return putKey(asked, value);
    }

    public int get(int key) throws NoSuchElementException {
        return present(findNumber(key)).value;
    }

    public int remove(int key) throws NoSuchElementException {
        return tree.takeOut(present(findNumber(key)));
    }

    public int load(int first, int step, int count, int value)
            throws IllegalArgumentException, IllegalStateException {
        if (step == 0 || count < 1 || count > MOST_LOADED) {
            throw new IllegalArgumentException("step or count is out of its range");
        }
        long last = first + (count - 1) * (long) step;
        if (last < Integer.MIN_VALUE || last > Integer.MAX_VALUE) {
            throw new IllegalArgumentException("the last number is no int");
        }
        int room = MOST_KEYS - tree.keys;
        if (count > room && countMissing(first, step, count) > room) {
            throw new IllegalStateException("there would be too many keys");
        }
        int fresh = 0;
        for (int i = 0; i < count; i++) {
            asked.spellNumber(first + i * step);
            if (putKey(asked, value)) {
                fresh++;
            }
        }
        return fresh;
    }

    public int removeRange(int low, int high) throws IllegalArgumentException {
        checkRange(low, high);
        int first = placesAhead(low);
        int end = placesUpTo(high);
        // The listing is not made anew before the loop ends, so the places stay as they are.
        for (int place = first; place < end; place++) {
            Leaf leaf = listing.leafAt(place);
            if (leaf != null) {
                tree.takeOut(leaf);
            }
        }
        return end - first;
    }

    public int ceiling(int key) throws NoSuchElementException {
        return numberOf(present(numberLeafAt(placesAhead(key))));
    }

    public int floor(int key) throws NoSuchElementException {
        return numberOf(present(numberLeafAt(placesUpTo(key) - 1)));
    }

    public int rank(int key) {
        return placesAhead(key);
    }

    public int select(int place) throws IndexOutOfBoundsException {
        Leaf leaf = numberLeafAt(place);
        if (leaf == null) {
            throw new IndexOutOfBoundsException("there are not so many numbers");
        }
        return numberOf(leaf);
    }

    public long sum(int low, int high) throws IllegalArgumentException {
        checkRange(low, high);
        int end = placesUpTo(high);
        long total = 0;
        for (int place = placesAhead(low); place < end; place++) {
            Leaf leaf = listing.leafAt(place);
            if (leaf != null) {
                total += leaf.value;
            }
        }
        return total;
    }

    public int countPrefix(int key, int bytes) throws IllegalArgumentException {
        if (bytes < 0 || bytes > NUMBER_BYTES) {
            throw new IllegalArgumentException("a number has 0 to 4 highest bytes");
        }
        asked.spellNumber(key);
        return listed().countBeginning(asked, 1 + bytes);
    }

    // ---- words

    public int letter(char letter) throws IllegalArgumentException, IllegalStateException {
        if (letter < 'a' || letter > 'z') {
            throw new IllegalArgumentException("no small letter");
        }
        if (written.letterCount() >= MOST_LETTERS) {
            throw new IllegalStateException("the word is full");
        }
        written.addLetter(letter);
        return written.letterCount();
    }

    public int back() throws IllegalStateException {
        if (written.letterCount() == 0) {
            throw new IllegalStateException("the word has no letter");
        }
        written.dropLetter();
        return written.letterCount();
    }

    public void clear() {
        written.spellEmptyWord();
    }

    public boolean putWord(int value) throws IllegalStateException {
        if (written.letterCount() == 0) {
            throw new IllegalStateException("the word has no letter");
        }
        return putKey(written, value);
    }

    public int getWord() throws NoSuchElementException {
        return present(tree.find(written)).value;
    }

    public int removeWord() throws NoSuchElementException {
        return tree.takeOut(present(tree.find(written)));
    }

    public int countWords() {
        return listed().countBeginning(written, 1 + written.letterCount());
    }

    public int rankWord() {
        return listed().ahead(written) - listing.numberCount;
    }

    // ---- the tree

    public int size() {
        return tree.keys;
    }

    public int nodes(int size) throws IllegalArgumentException {
        if (size != SIZE_4 && size != SIZE_16 && size != SIZE_48 && size != SIZE_256) {
            throw new IllegalArgumentException("no node has this size");
        }
        int count = 0;
        int end = listed().innerCount;
        for (int place = 0; place < end; place++) {
            Inner inner = listing.innerAt(place);
            if (inner != null && inner.size == size) {
                count++;
            }
        }
        return count;
    }

    public int height() {
        return listed().tallest;
    }

    public int pathBytes() {
        return listed().pathTotal;
    }

    public int depth(int key) throws NoSuchElementException {
        present(findNumber(key));
        return tree.innersAbove(asked);
    }

    public int grown() {
        return tree.growths;
    }

    public int shrunk() {
        return tree.shrinkages;
    }

    public int footprint() {
        int bytes = listed().pathTotal;
        for (int place = 0; place < listing.innerCount; place++) {
            Inner inner = listing.innerAt(place);
            if (inner != null) {
                bytes += bytesOfSize(inner.size);
            }
        }
        return bytes;
    }

    // ---- a walk

    public void walk(int low, int high) throws IllegalArgumentException {
        checkRange(low, high);
        beginWalk(placesAhead(low), placesUpTo(high));
    }

    public void walkWords() {
        // The written word's row is the lowest of all rows of words that begin with it.
        int first = listed().ahead(written);
        beginWalk(first, first + countWords());
    }

    public boolean next() throws ConcurrentModificationException, IllegalStateException {
        checkWalk();
        here = null;
        if (walkNext < walkEnd) {
            here = listed().leafAt(walkNext);
            walkNext++;
        }
        return here != null;
    }

    public int number() throws ConcurrentModificationException, IllegalStateException {
        Leaf leaf = standing();
        if (!leaf.key.isNumber()) {
            throw new IllegalStateException("the walk stands at a word");
        }
        return numberOf(leaf);
    }

    public char letterAt(int place)
            throws ConcurrentModificationException, IllegalStateException, IndexOutOfBoundsException {
        Leaf leaf = standing();
        if (leaf.key.isNumber()) {
            throw new IllegalStateException("the walk stands at a number");
        }
        if (place < 0 || place >= leaf.key.letterCount()) {
            throw new IndexOutOfBoundsException("the word has no such letter");
        }
        return (char) leaf.key.byteAt(1 + place);
    }

    public int value() throws ConcurrentModificationException, IllegalStateException {
        return standing().value;
    }

    public int removeHere() throws ConcurrentModificationException, IllegalStateException {
        int value = tree.takeOut(standing());
        here = null;
        // All that stands behind the key moves up by one place.
        walkNext--;
        walkEnd--;
        walkChanges = tree.changes;
        return value;
    }

    // ---- what the calls share

    private boolean putKey(Key key, int value) {
        Leaf near = tree.nearest(key);
        if (near != null && near.key.isSame(key)) {
            near.value = value;
            return false;
        }
        if (tree.keys >= MOST_KEYS) {
            throw new IllegalStateException("there are too many keys");
        }
        tree.insert(key, value, near);
        return true;
    }

    private Leaf findNumber(int number) {
        asked.spellNumber(number);
        return tree.find(asked);
    }

    private static Leaf present(Leaf leaf) {
        if (leaf == null) {
            throw new NoSuchElementException("there is no such key");
        }
        return leaf;
    }

    private static int numberOf(Leaf leaf) {
        return leaf.key.readNumber();
    }

    private int countMissing(int first, int step, int count) {
        int missing = 0;
        for (int i = 0; i < count; i++) {
            if (findNumber(first + i * step) == null) {
                missing++;
            }
        }
        return missing;
    }

    private static void checkRange(int low, int high) {
        if (low > high) {
            throw new IllegalArgumentException("low is greater than high");
        }
    }

    private Listing listed() {
        if (listing.changes != tree.changes) {
            listing.make(tree);
        }
        return listing;
    }

    private int placesAhead(int number) {
        asked.spellNumber(number);
        return listed().ahead(asked);
    }

    private int placesUpTo(int number) {
        asked.spellNumber(number);
        int ahead = listed().ahead(asked);
        return tree.find(asked) == null ? ahead : ahead + 1;
    }

    private Leaf numberLeafAt(int place) {
        return place < listed().numberCount ? listing.leafAt(place) : null;
    }

    private void beginWalk(int first, int end) {
        walkBegun = true;
        walkChanges = tree.changes;
        walkNext = first;
        walkEnd = end;
        here = null;
    }

    private void checkWalk() {
        if (!walkBegun) {
            throw new IllegalStateException("no walk was begun");
        }
        if (walkChanges != tree.changes) {
            throw new ConcurrentModificationException("a key came or went since the walk began");
        }
    }

    private Leaf standing() {
        checkWalk();
        if (here == null) {
            throw new IllegalStateException("the walk stands at no key");
        }
        return here;
    }

    // ---- the sizes of nodes

    private static int largerSize(int size) {
        return size < SIZE_16 ? SIZE_16 : size < SIZE_48 ? SIZE_48 : SIZE_256;
    }

    private static int smallerSize(int size) {
        return size > SIZE_48 ? SIZE_48 : size > SIZE_16 ? SIZE_16 : SIZE_4;
    }

    /** The number of children at which a node shrinks; 0 for the smallest size, which has none to shrink to. */
    private static int shrinksAt(int size) {
        switch (size) {
            case SIZE_256:
                return 40;
            case SIZE_48:
                return 12;
            case SIZE_16:
                return 3;
            default:
                return 0;
        }
    }

    private static int bytesOfSize(int size) {
        switch (size) {
            case SIZE_256:
                return 2064;
            case SIZE_48:
                return 656;
            case SIZE_16:
                return 160;
            default:
                return 52;
        }
    }

    /** A row of bytes; behind its end it answers NO_BYTE, which is lower than any byte. */
    private static final class Key {
        private final int[] bytes = new int[LONGEST_KEY];
        private int length;

        int byteAt(int place) {
            return place >= 0 && place < length && place < bytes.length ? bytes[place] : NO_BYTE;
        }

        private void append(int next) {
            if (length >= 0 && length < bytes.length) {
                bytes[length] = next;
                length++;
            }
        }

        void spellNumber(int number) {
            // With the highest bit inverted, negative numbers come first in the order of bytes.
            int inverted = number ^ Integer.MIN_VALUE;
            length = 0;
            append(NUMBER);
            for (int shift = 24; shift >= 0; shift -= 8) {
                append(inverted >>> shift & 255);
            }
        }

        boolean isNumber() {
            return length > 0 && bytes[0] == NUMBER;
        }

        int readNumber() {
            int inverted = 0;
            for (int place = 1; place <= NUMBER_BYTES; place++) {
                inverted = inverted << 8 | byteAt(place);
            }
            return inverted ^ Integer.MIN_VALUE;
        }

        void spellEmptyWord() {
            length = 0;
            append(WORD);
            append(WORD_END);
        }

        int letterCount() {
            return length - 2;
        }

        void addLetter(char letter) {
            length--;
            append(letter);
            append(WORD_END);
        }

        void dropLetter() {
            length -= 2;
            append(WORD_END);
        }

        void copy(Key other) {
            length = 0;
            for (int place = 0; place < other.length; place++) {
                append(other.byteAt(place));
            }
        }

        /** How many bytes, from the first one on, both rows have in common. */
        int common(Key other) {
            int place = 0;
            while (place < length && byteAt(place) == other.byteAt(place)) {
                place++;
            }
            return place;
        }

        boolean isSame(Key other) {
            return length == other.length && common(other) == length;
        }

        boolean isAhead(Key other) {
            int fork = common(other);
            return byteAt(fork) < other.byteAt(fork);
        }
    }

    /** A leaf or an inner node. */
    private abstract static class Node {
        /** The byte by which it hangs at its parent; of no meaning at the top. */
        int hang;
    }

    private static final class Leaf extends Node {
        final Key key = new Key();
        int value;
        Leaf nextSpare;
    }

    /**
     * An inner node. It keeps the length of its branching alone: the bytes stand in every key
     * below it, and its path is what lies between the branchings of its parent and its own.
     */
    private static final class Inner extends Node {
        int branching;
        int size;
        int count;
        Inner nextSpare;

        /** Never made shorter: a node that shrinks, or is used again, needs no new row to grow. */
        private Node[] children = new Node[SIZE_4];

        void begin(int branchingLength) {
            branching = branchingLength;
            size = SIZE_4;
            count = 0;
        }

        Node childAt(int place) {
            return place >= 0 && place < count && place < children.length ? children[place] : null;
        }

        /** How many children hang by lower bytes. */
        private int placeOf(int hang) {
            int place = 0;
            for (int step = WIDEST_STEP; step > 0; step >>= 1) {
                int last = place + step - 1;
                Node child = last < count && last < children.length ? children[last] : null;
                if (child != null && child.hang < hang) {
                    place += step;
                }
            }
            return place;
        }

        /** The child on the way to a key, or null. */
        Node toward(Key key) {
            int hang = key.byteAt(branching);
            Node child = childAt(placeOf(hang));
            return child != null && child.hang == hang ? child : null;
        }

        /** Returns whether the node grew for it. */
        boolean add(Node child, int hang) {
            boolean grows = count >= size;
            if (grows) {
                size = largerSize(size);
                widen();
            }
            child.hang = hang;
            int place = placeOf(hang);
            for (int i = Math.min(count, children.length - 1); i > place; i--) {
                children[i] = children[i - 1];
            }
            if (place < children.length) {
                children[place] = child;
                count++;
            }
            return grows;
        }

        private void widen() {
            if (children.length < size) {
                Node[] wider = new Node[size];
                for (int i = 0; i < children.length && i < wider.length; i++) {
                    wider[i] = children[i];
                }
                children = wider;
            }
        }

        /** Puts a child in place of the one that hangs by the same byte. */
        void replace(Node child, int hang) {
            int place = placeOf(hang);
            if (place < count && place < children.length) {
                child.hang = hang;
                children[place] = child;
            }
        }

        void drop(int hang) {
            int place = placeOf(hang);
            if (place < count) {
                for (int i = place; i + 1 < count && i + 1 < children.length; i++) {
                    children[i] = children[i + 1];
                }
                count--;
            }
        }

        /** Returns whether the node shrank. */
        boolean settle() {
            boolean shrinks = count == shrinksAt(size);
            if (shrinks) {
                size = smallerSize(size);
            }
            return shrinks;
        }
    }

    /** The keys in their tree. Its top is the root, or the only leaf, or null. */
    private static final class Tree {
        Node top;
        int keys;
        int growths;
        int shrinkages;

        /** How many keys came or went. */
        int changes;

        // Nodes that went are used again, so that a run makes no more than stand at once.
        private Leaf spareLeaf;
        private Inner spareInner;

        /** A leaf that has the most bytes in common with a key; null if there is no leaf. */
        Leaf nearest(Key key) {
            Node node = top;
            Inner inner = innerOf(node);
            for (int depth = 0; depth < LONGEST_KEY && inner != null; depth++) {
                node = inner.toward(key);
                if (node == null) {
                    node = inner.childAt(0);
                }
                inner = innerOf(node);
            }
            return node instanceof Leaf ? (Leaf) node : null;
        }

        Leaf find(Key key) {
            Leaf leaf = nearest(key);
            return leaf != null && leaf.key.isSame(key) ? leaf : null;
        }

        int innersAbove(Key key) {
            int depth = 0;
            Inner inner = innerOf(top);
            while (depth < LONGEST_KEY && inner != null) {
                inner = innerOf(inner.toward(key));
                depth++;
            }
            return depth;
        }

        /** Puts in a key that is not there yet; near is the leaf nearest to it. */
        void insert(Key key, int value, Leaf near) {
            Leaf leaf = takeLeaf();
            leaf.key.copy(key);
            leaf.value = value;
            if (near == null) {
                top = leaf;
            } else {
                hangIn(leaf, near);
            }
            keys++;
            changes++;
        }

        private void hangIn(Leaf leaf, Leaf near) {
            Key key = leaf.key;
            int fork = key.common(near.key);
            Inner above = null;
            Node node = top;
            Inner inner = innerOf(node);
            for (int depth = 0; depth < LONGEST_KEY && inner != null && inner.branching < fork; depth++) {
                above = inner;
                node = inner.toward(key);
                inner = innerOf(node);
            }
            if (inner != null && inner.branching == fork) {
                if (inner.add(leaf, key.byteAt(fork))) {
                    growths++;
                }
            } else if (node != null) {
                Inner fresh = takeInner(fork);
                // Ahead of add: the node above is searched by the bytes by which its children hang.
                replaceBelow(above, key, fresh);
                fresh.add(node, near.key.byteAt(fork));
                fresh.add(leaf, key.byteAt(fork));
            }
        }

        /** Puts a node where the way to a key leaves the node above, or to the top. */
        private void replaceBelow(Inner above, Key key, Node node) {
            if (above == null) {
                top = node;
            } else {
                above.replace(node, key.byteAt(above.branching));
            }
        }

        /** Takes out a leaf of the tree and returns its value. */
        int takeOut(Leaf leaf) {
            Inner above = null;
            Inner parent = null;
            Inner inner = innerOf(top);
            for (int depth = 0; depth < LONGEST_KEY && inner != null; depth++) {
                above = parent;
                parent = inner;
                inner = innerOf(inner.toward(leaf.key));
            }
            if (parent == null) {
                top = null;
            } else {
                parent.drop(leaf.hang);
                tidy(parent, above, leaf.key);
            }
            leaf.nextSpare = spareLeaf;
            spareLeaf = leaf;
            keys--;
            changes++;
            return leaf.value;
        }

        private void tidy(Inner parent, Inner above, Key key) {
            Node last = parent.childAt(0);
            if (parent.count == 1 && last != null) {
                replaceBelow(above, key, last);
                parent.nextSpare = spareInner;
                spareInner = parent;
            } else if (parent.settle()) {
                shrinkages++;
            }
        }

        private static Inner innerOf(Node node) {
            return node instanceof Inner ? (Inner) node : null;
        }

        private Leaf takeLeaf() {
            Leaf leaf = spareLeaf;
            if (leaf == null) {
                return new Leaf();
            }
            spareLeaf = leaf.nextSpare;
            return leaf;
        }

        private Inner takeInner(int branching) {
            Inner inner = spareInner;
            if (inner == null) {
                inner = new Inner();
            } else {
                spareInner = inner.nextSpare;
            }
            inner.begin(branching);
            return inner;
        }
    }

    /** The leaves of a tree in their order, its inner nodes, and what can be counted on the way. */
    private static final class Listing {
        private final Leaf[] leaves = new Leaf[MOST_KEYS];
        private final Inner[] inners = new Inner[MOST_KEYS];
        private int leafCount;
        int innerCount;
        int numberCount;
        int pathTotal;
        int tallest;

        /** The tree's changes when the listing was made. */
        int changes;

        void make(Tree tree) {
            leafCount = 0;
            innerCount = 0;
            numberCount = 0;
            pathTotal = 0;
            tallest = 0;
            gather(this, tree.top, 0, 0);
            changes = tree.changes;
        }

        /** A node's path begins at a place in its keys; above it are as many inner nodes as the depth says. */
        private static void gather(Listing listing, Node node, int pathStart, int depth) {
            if (node instanceof Leaf) {
                listing.addLeaf((Leaf) node, depth);
            } else if (node instanceof Inner && depth < LONGEST_KEY) {
                Inner inner = (Inner) node;
                listing.addInner(inner, inner.branching - pathStart);
                for (int place = 0; place < inner.count; place++) {
                    gather(listing, inner.childAt(place), inner.branching + 1, depth + 1);
                }
            }
        }

        private void addLeaf(Leaf leaf, int depth) {
            if (leafCount < leaves.length) {
                leaves[leafCount] = leaf;
                leafCount++;
            }
            if (leaf.key.isNumber()) {
                numberCount++;
            }
            tallest = Math.max(tallest, depth);
        }

        private void addInner(Inner inner, int path) {
            if (innerCount < inners.length) {
                inners[innerCount] = inner;
                innerCount++;
            }
            pathTotal += path;
        }

        Leaf leafAt(int place) {
            return place >= 0 && place < leafCount && place < leaves.length ? leaves[place] : null;
        }

        Inner innerAt(int place) {
            return place >= 0 && place < innerCount && place < inners.length ? inners[place] : null;
        }

        /** How many keys stand ahead of a key. */
        int ahead(Key key) {
            int place = 0;
            for (int step = WIDEST_STEP; step > 0; step >>= 1) {
                Leaf leaf = leafAt(place + step - 1);
                if (leaf != null && leaf.key.isAhead(key)) {
                    place += step;
                }
            }
            return place;
        }

        /** How many keys begin with the first bytes of a key. */
        int countBeginning(Key key, int bytes) {
            int count = 0;
            for (int place = 0; place < leafCount; place++) {
                Leaf leaf = leafAt(place);
                if (leaf != null && leaf.key.common(key) >= bytes) {
                    count++;
                }
            }
            return count;
        }
    }
}
