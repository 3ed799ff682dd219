/** Promises 1 to 12. */
final class NumbersTest {
    private static final int LOW = Integer.MIN_VALUE;
    private static final int HIGH = Integer.MAX_VALUE;

    private NumbersTest() {
    }

    private static Needlecase with(int... numbers) {
        Needlecase x = new Needlecase();
        for (int number : numbers) {
            x.put(number, 10 * number);
        }
        return x;
    }

    static void promise01AnEmptyMap() {
        Needlecase x = new Needlecase();
        Expect.equal(0, x.size());
        Expect.equal(0, x.countWords());
        Expect.equal(0, x.rankWord());
        Expect.equal(0, x.height());
        Expect.equal(0, x.pathBytes());
        Expect.equal(0, x.footprint());
        Expect.equal(0, x.grown());
        Expect.equal(0, x.shrunk());
        Expect.equal(0, x.rank(HIGH));
        Expect.equal(0L, x.sum(LOW, HIGH));
        for (int size : new int[] {4, 16, 48, 256}) {
            Expect.equal(0, x.nodes(size));
        }
    }

    static void promise01NoWordIsWritten() {
        Needlecase x = new Needlecase();
        Expect.badState(x, x::back);
        Expect.equal(1, x.letter('q'));
    }

    static void promise01ObjectsShareNothing() {
        Needlecase x = with(1, 2);
        x.letter('a');
        x.walk(1, 2);
        Needlecase y = new Needlecase();
        Expect.equal(0, y.size());
        Expect.badState(y, y::back);
        Expect.badState(y, y::next);
    }

    static void promise02PutSaysWhetherTheNumberIsNew() {
        Needlecase x = new Needlecase();
        Expect.yes(x.put(7, 70));
        Expect.equal(70, x.get(7));
        Expect.no(x.put(7, 71));
        Expect.equal(71, x.get(7));
        Expect.equal(1, x.size());
        Expect.yes(x.put(LOW, LOW));
        Expect.yes(x.put(HIGH, HIGH));
        Expect.yes(x.put(0, -1));
        Expect.yes(x.put(-1, 0));
        Expect.equal(LOW, x.get(LOW));
        Expect.equal(HIGH, x.get(HIGH));
        Expect.equal(-1, x.get(0));
        Expect.equal(0, x.get(-1));
        Expect.equal(71, x.get(7));
        Expect.equal(5, x.size());
    }

    static void promise02PutIntoAFullMap() {
        Needlecase x = Expect.full();
        Expect.badState(x, () -> x.put(399, 2));
        Expect.badState(x, () -> x.put(LOW, 2));
        Expect.no(x.put(398, 2));
        Expect.equal(2, x.get(398));
        x.remove(0);
        Expect.yes(x.put(399, 2));
        Expect.badState(x, () -> x.put(0, 2));
    }

    static void promise02TheLastOf400() {
        Needlecase x = new Needlecase();
        x.load(0, 1, 200, 1);
        x.load(200, 1, 199, 1);
        Expect.yes(x.put(-5, 3));
        Expect.equal(400, x.size());
        Expect.equal(3, x.get(-5));
    }

    static void promise03GetOfAMissingNumber() {
        Needlecase x = new Needlecase();
        Expect.noSuchKey(x, () -> x.get(0));
        x.put(256, 1);
        Expect.noSuchKey(x, () -> x.get(0));
        x.put(257, 2);
        x.put(65536, 3);
        for (int missing : new int[] {0, 1, 255, 258, 512, 65537, 65792, -256, LOW, HIGH}) {
            Expect.noSuchKey(x, () -> x.get(missing));
        }
        Expect.equal(1, x.get(256));
        Expect.equal(2, x.get(257));
        Expect.equal(3, x.get(65536));
    }

    static void promise04RemoveReturnsTheValue() {
        Needlecase x = with(1, 2, 3);
        x.put(2, LOW);
        Expect.equal(LOW, x.remove(2));
        Expect.noSuchKey(x, () -> x.remove(2));
        Expect.noSuchKey(x, () -> x.get(2));
        Expect.equal(10, x.get(1));
        Expect.equal(30, x.get(3));
        Expect.equal(2, x.size());
        Expect.equal(10, x.remove(1));
        Expect.equal(30, x.remove(3));
        Expect.equal(0, x.size());
        Expect.noSuchKey(x, () -> x.remove(3));
        Expect.yes(x.put(2, 8));
        Expect.equal(8, x.get(2));
    }

    static void promise05LoadPutsNumbersInSteps() {
        Needlecase x = with(10, 16);
        Expect.equal(3, x.load(10, 3, 5, 9));
        Expect.equal(5, x.size());
        for (int number : new int[] {10, 13, 16, 19, 22}) {
            Expect.equal(9, x.get(number));
        }
        Expect.equal(0, x.load(10, 3, 5, 4));
        Expect.equal(20L, x.sum(LOW, HIGH));
        Expect.equal(3, x.load(-1, -1, 3, 4));
        Expect.equal(-3, x.select(0));
    }

    static void promise05LoadAtTheEndsOfItsRanges() {
        Needlecase x = new Needlecase();
        Expect.equal(200, x.load(HIGH - 199, 1, 200, 1));
        Expect.equal(HIGH, x.select(199));
        Expect.equal(1, x.load(LOW, LOW, 1, 1));
        Expect.equal(1, x.load(0, LOW, 2, 5));
        Expect.equal(5, x.get(LOW));
        Expect.equal(1, x.load(-1, HIGH, 2, 6));
        Expect.equal(6, x.get(HIGH - 1));
        Expect.equal(1, x.load(LOW + 1, HIGH, 3, 7));
        Expect.equal(7, x.get(HIGH));
        Expect.equal(7, x.get(0));
        Expect.equal(204, x.size());
    }

    static void promise05LoadOverTheWholeRangeOfInts() {
        Needlecase x = new Needlecase();
        Expect.equal(200, x.load(LOW, 21581642, 200, 1));
        Expect.equal(LOW, x.select(0));
        Expect.equal((int) (LOW + 199L * 21581642), x.select(199));
    }

    static void promise05LoadRefusesWrongArguments() {
        Needlecase x = with(1);
        Expect.badArgument(x, () -> x.load(0, 0, 1, 1));
        Expect.badArgument(x, () -> x.load(0, 1, 0, 1));
        Expect.badArgument(x, () -> x.load(0, 1, -1, 1));
        Expect.badArgument(x, () -> x.load(0, 1, LOW, 1));
        Expect.badArgument(x, () -> x.load(0, 1, 201, 1));
        Expect.badArgument(x, () -> x.load(0, 1, HIGH, 1));
        Expect.badArgument(x, () -> x.load(HIGH, 1, 2, 1));
        Expect.badArgument(x, () -> x.load(LOW, -1, 2, 1));
        Expect.badArgument(x, () -> x.load(LOW, 21582751, 200, 1));
        Expect.badArgument(x, () -> x.load(0, HIGH, 3, 1));
        Expect.badArgument(x, () -> x.load(0, 1 << 30, 5, 1));
        Expect.badArgument(x, () -> x.load(HIGH - 198, 1, 200, 1));
    }

    static void promise05LoadIntoAFullMap() {
        Needlecase x = Expect.full();
        Expect.badState(x, () -> x.load(399, 1, 1, 1));
        Expect.badState(x, () -> x.load(390, 1, 10, 7));
        Expect.badArgument(x, () -> x.load(399, 0, 1, 1));
        Expect.badArgument(x, () -> x.load(HIGH, 1, 2, 1));
        Expect.equal(0, x.load(199, 1, 200, 7));
        Expect.equal(7, x.get(398));
        x.removeRange(0, 9);
        Expect.badState(x, () -> x.load(389, 1, 21, 1));
        Expect.equal(10, x.load(389, 1, 20, 1));
        Expect.equal(400, x.size());
    }

    static void promise05LoadIntoAMapWithRoomForOneMore() {
        Needlecase x = Expect.full();
        x.remove(398);
        Expect.badState(x, () -> x.load(-2, 1, 2, 1));
        Expect.badState(x, () -> x.load(-2, 1, 10, 1));
        Expect.badState(x, () -> x.load(398, 1, 2, 1));
        Expect.badState(x, () -> x.load(390, 1, 10, 1));
        Expect.badState(x, () -> x.load(-1, 399, 2, 1));
        Expect.equal(1, x.load(-1, 1, 10, 3));
        Expect.equal(3, x.get(8));
        x.remove(-1);
        Expect.equal(1, x.load(397, 1, 2, 4));
        Expect.equal(400, x.size());
    }

    static void promise06RemoveRangeTakesNumbersOut() {
        Needlecase x = with(LOW, -2, -1, 0, 1, 2, HIGH);
        Expect.putWord(x, "a", 1);
        Expect.equal(3, x.removeRange(-1, 1));
        Expect.equal(0, x.removeRange(-1, 1));
        Expect.equal(5, x.size());
        Expect.equal(1, x.removeRange(2, 2));
        Expect.equal(-20, x.get(-2));
        Expect.badArgument(x, () -> x.removeRange(1, 0));
        Expect.badArgument(x, () -> x.removeRange(HIGH, LOW));
        Expect.equal(1, x.removeRange(HIGH, HIGH));
        Expect.equal(1, x.removeRange(LOW, LOW));
        Expect.equal(1, x.removeRange(LOW, HIGH));
        Expect.equal(1, x.size());
        Expect.equal(1, x.getWord());
    }

    static void promise06RemoveRangeOfAFullMap() {
        Needlecase x = Expect.full();
        Expect.equal(399, x.removeRange(LOW, HIGH));
        Expect.equal(1, x.size());
        Expect.equal(0, x.height());
        Expect.equal(200, x.load(0, 1, 200, 2));
        Expect.equal(200, x.removeRange(0, 199));
    }

    static void promise07Ceiling() {
        Needlecase x = new Needlecase();
        Expect.noSuchKey(x, () -> x.ceiling(LOW));
        Expect.putWord(x, "a", 1);
        Expect.noSuchKey(x, () -> x.ceiling(LOW));
        for (int number : new int[] {-300, -1, 0, 255, 70000}) {
            x.put(number, 1);
        }
        Expect.equal(-300, x.ceiling(LOW));
        Expect.equal(-300, x.ceiling(-300));
        Expect.equal(-1, x.ceiling(-299));
        Expect.equal(0, x.ceiling(0));
        Expect.equal(255, x.ceiling(1));
        Expect.equal(70000, x.ceiling(256));
        Expect.equal(70000, x.ceiling(70000));
        Expect.noSuchKey(x, () -> x.ceiling(70001));
        Expect.noSuchKey(x, () -> x.ceiling(HIGH));
        x.put(HIGH, 1);
        Expect.equal(HIGH, x.ceiling(HIGH));
    }

    static void promise08Floor() {
        Needlecase x = new Needlecase();
        Expect.noSuchKey(x, () -> x.floor(HIGH));
        Expect.putWord(x, "a", 1);
        Expect.noSuchKey(x, () -> x.floor(HIGH));
        for (int number : new int[] {-300, -1, 0, 255, 70000}) {
            x.put(number, 1);
        }
        Expect.equal(70000, x.floor(HIGH));
        Expect.equal(70000, x.floor(70000));
        Expect.equal(255, x.floor(69999));
        Expect.equal(0, x.floor(254));
        Expect.equal(-1, x.floor(-1));
        Expect.equal(-300, x.floor(-2));
        Expect.noSuchKey(x, () -> x.floor(-301));
        Expect.noSuchKey(x, () -> x.floor(LOW));
        x.put(LOW, 1);
        Expect.equal(LOW, x.floor(LOW));
        Expect.equal(LOW, x.floor(-301));
    }

    static void promise09Rank() {
        Needlecase x = with(LOW, -1, 0, 1, 256, HIGH);
        Expect.putWord(x, "a", 1);
        Expect.equal(0, x.rank(LOW));
        Expect.equal(1, x.rank(LOW + 1));
        Expect.equal(1, x.rank(-1));
        Expect.equal(2, x.rank(0));
        Expect.equal(4, x.rank(2));
        Expect.equal(4, x.rank(256));
        Expect.equal(5, x.rank(257));
        Expect.equal(5, x.rank(HIGH));
        Expect.equal(399, Expect.full().rank(HIGH));
    }

    static void promise10Select() {
        Needlecase x = with(5, -5, 300, LOW, HIGH);
        Expect.putWord(x, "a", 1);
        int[] order = {LOW, -5, 5, 300, HIGH};
        for (int place = 0; place < order.length; place++) {
            Expect.equal(order[place], x.select(place));
        }
        Expect.badIndex(x, () -> x.select(5));
        Expect.badIndex(x, () -> x.select(-1));
        Expect.badIndex(x, () -> x.select(LOW));
        Expect.badIndex(x, () -> x.select(HIGH));
        Needlecase full = Expect.full();
        Expect.equal(398, full.select(398));
        Expect.badIndex(full, () -> full.select(399));
        Needlecase empty = new Needlecase();
        Expect.badIndex(empty, () -> empty.select(0));
    }

    static void promise11Sum() {
        Needlecase x = new Needlecase();
        Expect.equal(0L, x.sum(LOW, HIGH));
        x.put(LOW, HIGH);
        x.put(0, HIGH);
        x.put(1, -7);
        x.put(HIGH, HIGH);
        Expect.putWord(x, "a", 1000);
        Expect.equal(3L * HIGH - 7, x.sum(LOW, HIGH));
        Expect.equal(HIGH - 7L, x.sum(0, 1));
        Expect.equal(-7L, x.sum(1, 1));
        Expect.equal(0L, x.sum(2, HIGH - 1));
        Expect.equal((long) HIGH, x.sum(HIGH, HIGH));
        Expect.badArgument(x, () -> x.sum(1, 0));
        Expect.badArgument(x, () -> x.sum(HIGH, LOW));
        x.load(2, 1, 200, LOW);
        Expect.equal(200L * LOW, x.sum(2, 201));
        x.put(2, 1);
        Expect.equal(199L * LOW + 1, x.sum(2, 201));
    }

    static void promise12CountPrefix() {
        Needlecase x = with(0x01020304, 0x01020305, 0x01020404, 0x01030304, 0x02020304, -1, LOW);
        Expect.putWord(x, "a", 1);
        Expect.equal(7, x.countPrefix(0x01020304, 0));
        Expect.equal(4, x.countPrefix(0x01020304, 1));
        Expect.equal(3, x.countPrefix(0x01020304, 2));
        Expect.equal(2, x.countPrefix(0x01020304, 3));
        Expect.equal(1, x.countPrefix(0x01020304, 4));
        Expect.equal(0, x.countPrefix(0x01020306, 4));
        Expect.equal(2, x.countPrefix(0x010203ff, 3));
        Expect.equal(1, x.countPrefix(-256, 3));
        Expect.equal(1, x.countPrefix(LOW + 1, 1));
        Expect.equal(0, x.countPrefix(HIGH, 1));
        Expect.badArgument(x, () -> x.countPrefix(0, -1));
        Expect.badArgument(x, () -> x.countPrefix(0, 5));
        Expect.badArgument(x, () -> x.countPrefix(0, LOW));
        Expect.badArgument(x, () -> x.countPrefix(0, HIGH));
    }
}
