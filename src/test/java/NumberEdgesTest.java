/** Promises 1 to 12: the edges that the document names, each by itself. */
final class NumberEdgesTest {
    private static final int LOW = Integer.MIN_VALUE;
    private static final int HIGH = Integer.MAX_VALUE;
    private static final Twins.Maker EMPTY = Needlecase::new;
    private static final Twins.Maker ONE_NUMBER = Maps::oneNumber;
    private static final Twins.Maker ONE_WORD = Maps::oneWord;
    private static final Twins.Maker MIXED = Maps::walkingNumbers;
    private static final Twins.Maker FULL = Maps::full;

    private NumberEdgesTest() {
    }

    // ---- promise 1

    @Says("Makes an empty map; no word is written.")
    static void promise01NoKeyIsInANewMap() {
        Expect.equal(0, new Needlecase().size());
        Expect.equal(0, new Needlecase().rank(HIGH));
        Expect.equal(0, new Needlecase().countPrefix(0, 0));
        Expect.equal(0, new Needlecase().countWords());
        Expect.equal(0, new Needlecase().removeRange(LOW, HIGH));
        Expect.equal(0L, new Needlecase().sum(LOW, HIGH));
        Twins.noSuchKey(EMPTY, x -> x.get(0), x -> x.remove(0), x -> x.ceiling(LOW), x -> x.floor(HIGH), x -> x.depth(0));
        Twins.badIndex(EMPTY, x -> x.select(0));
    }

    @Says("Makes an empty map; no word is written.")
    static void promise01NoNodeIsInANewMap() {
        for (int size : new int[] {4, 16, 48, 256}) {
            Expect.equal(0, new Needlecase().nodes(size));
        }
        Expect.equal(0, new Needlecase().height());
        Expect.equal(0, new Needlecase().pathBytes());
        Expect.equal(0, new Needlecase().footprint());
        Expect.equal(0, new Needlecase().grown());
        Expect.equal(0, new Needlecase().shrunk());
    }

    @Says("Makes an empty map; no word is written.")
    static void promise01NoLetterIsWrittenAtFirst() {
        Twins.badState(EMPTY, x -> x.back(), x -> x.putWord(1));
        Twins.noSuchKey(EMPTY, x -> x.getWord(), x -> x.removeWord());
        Expect.equal(0, new Needlecase().rankWord());
        Expect.equal(1, new Needlecase().letter('z'));
    }

    @Says("An object is used for at most 512 calls after it has been made; what later calls answer is free.")
    static void termsThe512thCallIsAnsweredAsTheFirst() {
        Needlecase x = new Needlecase();
        for (int call = 1; call < 512; call++) {
            Expect.equal(call <= 400, x.put((call - 1) % 400, call));
        }
        // 111 numbers got their value anew, each one that was greater by 400.
        Expect.equal(400L * 401 / 2 + 111 * 400, x.sum(LOW, HIGH));
    }

    // ---- promise 2

    @Says({"Puts a number in, or gives it another value.", "key: the number", "Returns whether it is new."})
    static void promise02TheFirstNumberAndTheSameAgain() {
        Needlecase x = new Needlecase();
        Expect.yes(x.put(0, 1));
        Expect.equal(1, x.size());
        Expect.no(x.put(0, 2));
        Expect.equal(2, x.get(0));
        Expect.no(x.put(0, 2));
        Expect.equal(1, x.size());
        x.remove(0);
        Expect.yes(x.put(0, 3));
        Expect.equal(3, x.get(0));
    }

    @Says({"key: the number", "value: its value"})
    static void promise02TheLowestAndTheHighestInt() {
        Needlecase x = new Needlecase();
        Expect.yes(x.put(LOW, HIGH));
        Expect.yes(x.put(HIGH, LOW));
        Expect.equal(HIGH, x.get(LOW));
        Expect.equal(LOW, x.get(HIGH));
        Expect.no(x.put(LOW, LOW));
        Expect.no(x.put(HIGH, HIGH));
        Expect.equal(LOW, x.get(LOW));
        Expect.equal(HIGH, x.get(HIGH));
        Expect.equal(2, x.size());
    }

    @Says("Keys are whole numbers (ints) or words of 1 to 12 small letters from a to z; at most 400 keys are in the map.")
    static void promise02The400thKeyComes() {
        Needlecase x = Maps.roomForOne();
        Expect.equal(399, x.size());
        Expect.yes(x.put(LOW, 5));
        Expect.equal(400, x.size());
        Expect.equal(5, x.get(LOW));
        Needlecase y = Maps.fullOfNumbers();
        y.remove(200);
        Expect.yes(y.put(200, 6));
        Expect.equal(400, y.rank(HIGH));
    }

    @Says("Throws IllegalStateException if it would be a new one, and there are 400 keys")
    static void promise02The401stKeyIsRefused() {
        Twins.badState(FULL, x -> x.put(399, 9), x -> x.put(-1, 9), x -> x.put(LOW, 9), x -> x.put(HIGH, 9));
        Twins.badState(Maps::fullOfNumbers, x -> x.put(400, 9), x -> x.put(-1, 9), x -> x.put(LOW, 9), x -> x.put(HIGH, 9));
    }

    @Says({"Throws IllegalStateException if it would be a new one, and there are 400 keys", "Puts a number in, or gives it another value."})
    static void promise02AFullMapTakesOtherValues() {
        Needlecase x = Maps.full();
        for (int number : new int[] {0, 1, 200, 398}) {
            Expect.no(x.put(number, number + 9));
            Expect.equal(number + 9, x.get(number));
        }
        Expect.equal(400, x.size());
        Expect.equal(399L - 4 + 9 + 10 + 209 + 407, x.sum(LOW, HIGH));
    }

    @Says("Throws IllegalStateException if it would be a new one, and there are 400 keys")
    static void promise02AMapThatWasFullHasRoomAgain() {
        Needlecase x = Maps.full();
        x.removeWord();
        Expect.yes(x.put(399, 1));
        Expect.badState(x, () -> x.put(400, 1));
        x.remove(399);
        Expect.yes(x.put(400, 1));
        Expect.badState(x, () -> x.put(399, 1));
    }

    // ---- promise 3

    @Says({"Returns the value of a number.", "key: the number", "Returns the value."})
    static void promise03TheValueOfEachNumber() {
        Needlecase one = Maps.oneNumber();
        Expect.equal(70, one.get(7));
        Needlecase x = Maps.of(LOW, -1, 0, 1, HIGH);
        for (int number : new int[] {LOW, -1, 0, 1, HIGH}) {
            Expect.equal(10 * number, x.get(number));
        }
        Needlecase full = Maps.full();
        for (int number = 0; number < 399; number++) {
            Expect.equal(1, full.get(number));
        }
    }

    @Says("Throws NoSuchElementException if the number is not in the map")
    static void promise03NoNumberInAnEmptyMap() {
        Twins.noSuchKey(EMPTY, x -> x.get(0), x -> x.get(-1), x -> x.get(LOW), x -> x.get(HIGH));
    }

    @Says("Throws NoSuchElementException if the number is not in the map")
    static void promise03OneKeyIsNoOther() {
        Twins.noSuchKey(ONE_NUMBER, x -> x.get(6), x -> x.get(8), x -> x.get(-7), x -> x.get(7 + 256),
            x -> x.get(7 + 65536), x -> x.get(7 + (1 << 24)), x -> x.get(7 ^ LOW), x -> x.get(0));
        Twins.noSuchKey(ONE_WORD, x -> x.get(0), x -> x.get('a'), x -> x.get('a' << 24 | 'b' << 16));
    }

    @Says("Throws NoSuchElementException if the number is not in the map")
    static void promise03MissingNumbersOfAFullMap() {
        Twins.noSuchKey(FULL, x -> x.get(-1), x -> x.get(399), x -> x.get(512), x -> x.get(65536), x -> x.get(LOW), x -> x.get(HIGH));
    }

    @Says("Throws NoSuchElementException if the number is not in the map")
    static void promise03ANumberThatWasTakenOut() {
        Twins.noSuchKey(() -> {
            Needlecase x = Maps.walkingNumbers();
            x.remove(300);
            x.remove(LOW);
            return x;
        }, x -> x.get(300), x -> x.get(LOW));
    }

    // ---- promise 4

    @Says({"Takes a number out.", "key: the number", "Returns its value."})
    static void promise04TheLastKeyGoes() {
        Needlecase x = Maps.oneNumber();
        x.put(7, LOW);
        Expect.equal(LOW, x.remove(7));
        Expect.equal(0, x.size());
        Twins.alike(() -> {
            Needlecase y = Maps.oneNumber();
            y.remove(7);
            return y;
        }, EMPTY);
    }

    @Says({"Takes a number out.", "Returns its value."})
    static void promise04TheLowestAndTheHighestIntGo() {
        Needlecase x = Maps.of(LOW, 0, HIGH);
        x.put(LOW, 4);
        x.put(HIGH, 5);
        Expect.equal(4, x.remove(LOW));
        Expect.equal(0, x.select(0));
        Expect.equal(5, x.remove(HIGH));
        Expect.equal(1, x.size());
        Expect.equal(0, x.get(0));
    }

    @Says({"Takes a number out.", "Returns its value."})
    static void promise04EachNumberOfAFullMapGoes() {
        Needlecase x = Maps.full();
        for (int number = 398; number >= 0; number--) {
            Expect.equal(1, x.remove(number));
        }
        Expect.equal(1, x.size());
        Expect.equal(1, x.getWord());
    }

    @Says("Throws NoSuchElementException if the number is not in the map")
    static void promise04NoNumberToTakeOutOfAnEmptyMap() {
        Twins.noSuchKey(EMPTY, x -> x.remove(0), x -> x.remove(LOW), x -> x.remove(HIGH));
    }

    @Says("Throws NoSuchElementException if the number is not in the map")
    static void promise04MissingNumbersAreNotTakenOut() {
        Twins.noSuchKey(ONE_NUMBER, x -> x.remove(6), x -> x.remove(7 + 256), x -> x.remove(7 ^ LOW));
        Twins.noSuchKey(ONE_WORD, x -> x.remove(0), x -> x.remove('a'));
        Twins.noSuchKey(MIXED, x -> x.remove(3), x -> x.remove(LOW + 1), x -> x.remove(HIGH - 1));
        Twins.noSuchKey(FULL, x -> x.remove(399), x -> x.remove(-1));
    }

    @Says("Throws NoSuchElementException if the number is not in the map")
    static void promise04ANumberGoesOnce() {
        Twins.noSuchKey(() -> {
            Needlecase x = Maps.walkingNumbers();
            x.remove(0);
            return x;
        }, x -> x.remove(0));
    }

    // ---- promise 5

    @Says({"step: any int but 0", "Throws IllegalArgumentException if step or count is out of its range, or the last number is no int"})
    static void promise05AStepOf0() {
        Twins.badArgument(EMPTY, x -> x.load(0, 0, 1, 1), x -> x.load(LOW, 0, 200, 1));
        Twins.badArgument(MIXED, x -> x.load(1, 0, 1, 9), x -> x.load(5, 0, 1, 1), x -> x.load(5, 0, 2, 1));
    }

    @Says("step: any int but 0")
    static void promise05AStepOf1AndOfMinus1() {
        Needlecase x = new Needlecase();
        Expect.equal(3, x.load(-1, 1, 3, 5));
        Expect.equal(15L, x.sum(-1, 1));
        Expect.equal(3, x.load(-2, -1, 3, 6));
        Expect.equal(18L, x.sum(-4, -2));
        Expect.equal(6, x.size());
    }

    @Says("step: any int but 0")
    static void promise05TheLowestIntAsStep() {
        Needlecase x = new Needlecase();
        Expect.equal(1, x.load(5, LOW, 1, 1));
        Expect.equal(2, x.load(0, LOW, 2, 2));
        Expect.equal(2, x.get(LOW));
        Expect.equal(2, x.load(HIGH, LOW, 2, 3));
        Expect.equal(3, x.get(HIGH));
        Expect.equal(3, x.get(-1));
        Expect.equal(5, x.size());
        Twins.badArgument(MIXED, y -> y.load(-1, LOW, 2, 1), y -> y.load(LOW, LOW, 2, 1), y -> y.load(HIGH, LOW, 3, 1));
    }

    @Says("step: any int but 0")
    static void promise05TheHighestIntAsStep() {
        Needlecase x = new Needlecase();
        Expect.equal(1, x.load(HIGH, HIGH, 1, 1));
        Expect.equal(3, x.load(LOW, HIGH, 3, 2));
        Expect.equal(2, x.get(LOW));
        Expect.equal(2, x.get(-1));
        Expect.equal(2, x.get(HIGH - 1));
        Expect.equal(2, x.load(LOW + 1, HIGH, 3, 3));
        Expect.equal(3, x.get(LOW + 1));
        Expect.equal(3, x.get(0));
        Expect.equal(3, x.get(HIGH));
        Twins.badArgument(MIXED, y -> y.load(LOW + 2, HIGH, 3, 1), y -> y.load(1, HIGH, 2, 1), y -> y.load(HIGH, HIGH, 200, 1));
    }

    @Says({"count: how many, 1 to 200", "Throws IllegalArgumentException if step or count is out of its range, or the last number is no int"})
    static void promise05ACountOf0() {
        Twins.badArgument(MIXED, x -> x.load(0, 1, 0, 1), x -> x.load(5, 1, 0, 1), x -> x.load(5, -1, -1, 1), x -> x.load(5, 1, LOW, 1));
    }

    @Says({"count: how many, 1 to 200", "Throws IllegalArgumentException if step or count is out of its range, or the last number is no int"})
    static void promise05ACountOf201() {
        Twins.badArgument(EMPTY, x -> x.load(0, 1, 201, 1), x -> x.load(0, 1, 202, 1), x -> x.load(0, 1, HIGH, 1));
        Twins.badArgument(MIXED, x -> x.load(5, -1, 201, 1));
    }

    @Says({"count: how many, 1 to 200", "first: the first number"})
    static void promise05CountsOf1AndOf200() {
        Needlecase x = new Needlecase();
        Expect.equal(1, x.load(-3, 7, 1, 1));
        Expect.equal(1, x.size());
        Expect.equal(1, x.get(-3));
        Expect.equal(200, x.load(0, 7, 200, 2));
        Expect.equal(201, x.size());
        Expect.equal(199 * 7, x.select(200));
    }

    @Says({"first: the first number", "Throws IllegalArgumentException if step or count is out of its range, or the last number is no int"})
    static void promise05TheLastNumberAboveAllInts() {
        Twins.badArgument(MIXED, x -> x.load(HIGH, 1, 2, 1), x -> x.load(HIGH - 198, 1, 200, 1), x -> x.load(HIGH - 5, 3, 3, 1));
        Needlecase x = new Needlecase();
        Expect.equal(1, x.load(HIGH, 1, 1, 1));
        Expect.equal(2, x.load(HIGH - 6, 3, 3, 1));
        Expect.equal(197, x.load(HIGH - 199, 1, 200, 1));
        Expect.equal(HIGH, x.select(199));
    }

    @Says({"first: the first number", "Throws IllegalArgumentException if step or count is out of its range, or the last number is no int"})
    static void promise05TheLastNumberBelowAllInts() {
        Twins.badArgument(MIXED, x -> x.load(LOW, -1, 2, 1), x -> x.load(LOW + 198, -1, 200, 1), x -> x.load(LOW + 5, -3, 3, 1));
        Needlecase x = new Needlecase();
        Expect.equal(1, x.load(LOW, -1, 1, 1));
        Expect.equal(2, x.load(LOW + 6, -3, 3, 1));
        Expect.equal(197, x.load(LOW + 199, -1, 200, 1));
        Expect.equal(LOW, x.select(0));
    }

    @Says("Throws IllegalArgumentException if step or count is out of its range, or the last number is no int")
    static void promise05ALastNumberThatWouldWrapAround() {
        Twins.badArgument(MIXED, x -> x.load(0, LOW, 3, 1), x -> x.load(0, 1 << 30, 5, 1), x -> x.load(5, 1 << 25, 129, 1),
            x -> x.load(-5, -(1 << 25), 129, 1), x -> x.load(5, LOW, 199, 1), x -> x.load(-1, HIGH, 200, 1));
    }

    @Says("Throws IllegalStateException if there would be more than 400 keys")
    static void promise05A401stKeyIsRefused() {
        Twins.badState(FULL, x -> x.load(399, 1, 1, 9), x -> x.load(398, 1, 2, 9), x -> x.load(0, -1, 2, 9), x -> x.load(200, 1, 200, 9));
        Twins.badState(Maps::roomForOne, x -> x.load(398, 1, 2, 9), x -> x.load(-2, 1, 10, 9), x -> x.load(-1, 399, 2, 9));
        Twins.badState(() -> {
            Needlecase x = new Needlecase();
            x.load(0, 1, 200, 1);
            x.put(-7, 1);
            return x;
        }, x -> x.load(1000, 1, 200, 9), x -> x.load(399, -1, 200, 9), x -> x.load(-208, 1, 200, 9));
    }

    @Says("Throws IllegalStateException if there would be more than 400 keys")
    static void promise05The400thKeyComes() {
        Needlecase x = new Needlecase();
        Expect.equal(200, x.load(0, 1, 200, 1));
        Expect.equal(200, x.load(200, 1, 200, 1));
        Expect.equal(400, x.size());
        Needlecase y = Maps.roomForOne();
        Expect.equal(1, y.load(398, -1, 200, 3));
        Expect.equal(400, y.size());
        Expect.equal(199L + 3 * 200, y.sum(LOW, HIGH));
    }

    @Says({"Throws IllegalStateException if there would be more than 400 keys", "Returns how many of them are new."})
    static void promise05OnlyNewNumbersNeedRoom() {
        Needlecase x = new Needlecase();
        x.load(0, 1, 200, 1);
        x.load(200, 1, 100, 1);
        Expect.badState(x, () -> x.load(201, 1, 200, 9));
        Expect.equal(100, x.load(200, 1, 200, 9));
        Expect.equal(400, x.size());
    }

    @Says({"Throws IllegalStateException if there would be more than 400 keys", "value: the value"})
    static void promise05AFullMapTakesOtherValues() {
        Needlecase x = Maps.full();
        Expect.equal(0, x.load(0, 1, 200, LOW));
        Expect.equal(0, x.load(398, -1, 199, HIGH));
        Expect.equal(200L * LOW, x.sum(0, 199));
        Expect.equal(199L * HIGH, x.sum(200, 398));
        Expect.equal(400, x.size());
    }

    @Says("Where a call could throw several exceptions, it throws the one that its comment lists first.")
    static void promise05WrongArgumentsComeAheadOfAFullMap() {
        Twins.badArgument(FULL, x -> x.load(399, 0, 1, 1), x -> x.load(399, 0, 200, 1), x -> x.load(399, 1, 201, 1),
            x -> x.load(399, 1, 0, 1), x -> x.load(HIGH, 1, 2, 1), x -> x.load(LOW, -1, 2, 1), x -> x.load(399, 1 << 25, 129, 1));
    }

    @Says("Puts numbers in, as by put(), one after the other: first, first + step, first + 2 * step, and so on; all with the same value.")
    static void promise05LoadDoesWhatPutsDo() {
        int[][] loads = {{0, 1, 50}, {300, -3, 60}, {-20, 256, 20}, {LOW, 1 << 26, 60}, {7, -65536, 5}};
        for (int[] load : loads) {
            Twins.alike(() -> {
                Needlecase x = Maps.mixed();
                x.load(load[0], load[1], load[2], 9);
                return x;
            }, () -> {
                Needlecase x = Maps.mixed();
                for (int i = 0; i < load[2]; i++) {
                    x.put(load[0] + i * load[1], 9);
                }
                return x;
            });
        }
    }

    @Says({"Returns how many of them are new.", "value: the value"})
    static void promise05NoneSomeAndAllAreNew() {
        Needlecase x = Maps.of(0, 20);
        Expect.equal(0, x.load(0, 20, 2, 1));
        Expect.equal(1, x.load(0, 10, 3, 2));
        Expect.equal(3, x.load(1, 10, 3, LOW));
        Expect.equal(2, x.get(0));
        Expect.equal(2, x.get(10));
        Expect.equal(2, x.get(20));
        Expect.equal(LOW, x.get(11));
        Expect.equal(6, x.size());
    }

    // ---- promise 6

    @Says("Throws IllegalArgumentException if low is greater than high")
    static void promise06LowGreaterThanHigh() {
        Twins.badArgument(EMPTY, x -> x.removeRange(1, 0), x -> x.removeRange(HIGH, LOW));
        Twins.badArgument(MIXED, x -> x.removeRange(1, 0), x -> x.removeRange(0, -1), x -> x.removeRange(HIGH, LOW),
            x -> x.removeRange(LOW + 1, LOW), x -> x.removeRange(HIGH, HIGH - 1));
    }

    @Says({"low: the lowest number", "high: the highest number", "Returns how many were taken out."})
    static void promise06ARangeOfOneNumber() {
        Needlecase x = Maps.of(LOW, -1, 0, 1, HIGH);
        Expect.equal(1, x.removeRange(0, 0));
        Expect.equal(0, x.removeRange(0, 0));
        Expect.equal(1, x.removeRange(LOW, LOW));
        Expect.equal(1, x.removeRange(HIGH, HIGH));
        Expect.equal(2, x.size());
        Expect.equal(-1, x.select(0));
        Expect.equal(1, x.select(1));
    }

    @Says({"low: the lowest number", "high: the highest number"})
    static void promise06TheEndsOfARangeBelongToIt() {
        Needlecase x = Maps.of(-257, -256, -255, 254, 255, 256);
        Expect.equal(4, x.removeRange(-256, 255));
        Expect.equal(-257, x.select(0));
        Expect.equal(256, x.select(1));
        Needlecase y = Maps.of(LOW, LOW + 1, HIGH - 1, HIGH);
        Expect.equal(2, y.removeRange(LOW + 1, HIGH - 1));
        Expect.equal(LOW, y.select(0));
        Expect.equal(HIGH, y.select(1));
    }

    @Says("Returns how many were taken out.")
    static void promise06ARangeWithoutANumber() {
        Twins.keepAll(EMPTY, x -> Expect.equal(0, x.removeRange(LOW, HIGH)));
        Twins.keepAll(ONE_WORD, x -> Expect.equal(0, x.removeRange(LOW, HIGH)));
        Twins.keepAll(ONE_NUMBER, x -> Expect.equal(0, x.removeRange(8, HIGH)), x -> Expect.equal(0, x.removeRange(LOW, 6)));
        Twins.keepAll(MIXED, x -> Expect.equal(0, x.removeRange(3, 299)), x -> Expect.equal(0, x.removeRange(LOW + 1, -2)));
    }

    @Says({"Takes all numbers of a range out, as by remove(), from the lowest one on.", "Returns how many were taken out."})
    static void promise06AllNumbersOfAFullMap() {
        Needlecase x = Maps.full();
        Expect.equal(399, x.removeRange(LOW, HIGH));
        Expect.equal(1, x.size());
        Expect.equal(1, x.getWord());
        Needlecase y = Maps.fullOfNumbers();
        Expect.equal(400, y.removeRange(0, 399));
        Expect.equal(0, y.size());
        Expect.equal(200, y.load(0, 1, 200, 1));
    }

    @Says("Takes all numbers of a range out, as by remove(), from the lowest one on.")
    static void promise06RemoveRangeDoesWhatRemovesDo() {
        for (int low : new int[] {0, 9, 31, 256}) {
            for (int high : new int[] {low, 256, 270, 297, 299}) {
                Twins.alike(() -> {
                    Needlecase x = loaded();
                    x.removeRange(low, high);
                    return x;
                }, () -> {
                    Needlecase x = loaded();
                    for (int number = low; number <= high; number++) {
                        if (number >= 250 || number % 10 == 0) {
                            x.remove(number);
                        }
                    }
                    return x;
                });
            }
        }
    }

    @Says("Takes all numbers of a range out, as by remove(), from the lowest one on.")
    static void promise06RemoveRangeDoesWhatRemovesDoInNodesOfAllSizes() {
        int[][] ranges = {{0, 19}, {0, 45}, {0, 60}, {10, 58}, {-70000, 3}, {59, 200000}, {300, 70000}, {LOW, 2}, {57, HIGH},
            {LOW, HIGH}};
        for (int[] range : ranges) {
            asRemovesDo(NumberEdgesTest::inNodesOfAllSizes, range[0], range[1]);
            asRemovesDo(NumberEdgesTest::whileAWalkGoesOn, range[0], range[1]);
        }
    }

    private static void asRemovesDo(Twins.Maker maker, int low, int high) {
        Twins.alike(() -> {
            Needlecase x = maker.make();
            x.removeRange(low, high);
            return x;
        }, () -> {
            Needlecase x = maker.make();
            for (int number : numbersOf(maker.make(), low, high)) {
                x.remove(number);
            }
            return x;
        });
    }

    /** The numbers of a range, the lowest first. */
    private static int[] numbersOf(Needlecase x, int low, int high) {
        int first = x.rank(low);
        int[] numbers = new int[x.rank(high) + (x.floor(high) == high ? 1 : 0) - first];
        for (int i = 0; i < numbers.length; i++) {
            numbers[i] = x.select(first + i);
        }
        return numbers;
    }

    /** Sixty children at one node, thirteen, five and two at others, and words with nodes of their own. */
    private static Needlecase inNodesOfAllSizes() {
        Needlecase x = new Needlecase();
        x.load(0, 1, 60, 1);
        x.load(256, 256, 13, 2);
        x.load(LOW, 1, 2, 3);
        x.load(-65536, 1, 5, 4);
        Expect.putWord(x, "ab", 5);
        Expect.putWord(x, "abc", 6);
        return x;
    }

    private static Needlecase whileAWalkGoesOn() {
        Needlecase x = inNodesOfAllSizes();
        x.walk(0, 1000);
        x.next();
        x.next();
        return x;
    }

    /** Every tenth number up to 240, and all from 250 to 299. */
    private static Needlecase loaded() {
        Needlecase x = new Needlecase();
        x.load(250, 1, 50, 1);
        x.load(0, 10, 25, 1);
        return x;
    }

    // ---- promise 7

    @Says({"Returns the lowest number in the map that is not below another one.", "key: the other one", "Returns the number."})
    static void promise07TheNumberItselfAndTheNextAbove() {
        Needlecase x = Maps.of(-256, -1, 0, 255, 65536);
        Expect.equal(-256, x.ceiling(-256));
        Expect.equal(-1, x.ceiling(-255));
        Expect.equal(-1, x.ceiling(-1));
        Expect.equal(0, x.ceiling(0));
        Expect.equal(255, x.ceiling(1));
        Expect.equal(65536, x.ceiling(256));
        x.remove(0);
        Expect.equal(255, x.ceiling(0));
    }

    @Says("key: the other one")
    static void promise07OfTheLowestAndTheHighestInt() {
        Needlecase x = Maps.of(LOW, HIGH);
        Expect.equal(LOW, x.ceiling(LOW));
        Expect.equal(HIGH, x.ceiling(LOW + 1));
        Expect.equal(HIGH, x.ceiling(HIGH));
        Expect.equal(7, Maps.oneNumber().ceiling(LOW));
        Expect.equal(7, Maps.oneNumber().ceiling(7));
    }

    @Says("Throws NoSuchElementException if there is none")
    static void promise07NoNumberAbove() {
        Twins.noSuchKey(ONE_NUMBER, x -> x.ceiling(8), x -> x.ceiling(HIGH));
        Twins.noSuchKey(FULL, x -> x.ceiling(399), x -> x.ceiling(HIGH));
    }

    @Says("Throws NoSuchElementException if there is none")
    static void promise07NoNumberInTheMap() {
        Twins.noSuchKey(EMPTY, x -> x.ceiling(LOW), x -> x.ceiling(0), x -> x.ceiling(HIGH));
        Twins.noSuchKey(ONE_WORD, x -> x.ceiling(LOW), x -> x.ceiling(HIGH));
    }

    // ---- promise 8

    @Says({"Returns the highest number in the map that is not above another one.", "key: the other one", "Returns the number."})
    static void promise08TheNumberItselfAndTheNextBelow() {
        Needlecase x = Maps.of(-256, -1, 0, 255, 65536);
        Expect.equal(65536, x.floor(65536));
        Expect.equal(255, x.floor(65535));
        Expect.equal(255, x.floor(255));
        Expect.equal(0, x.floor(254));
        Expect.equal(0, x.floor(0));
        Expect.equal(-1, x.floor(-1));
        Expect.equal(-256, x.floor(-2));
        x.remove(0);
        Expect.equal(-1, x.floor(0));
    }

    @Says("key: the other one")
    static void promise08OfTheLowestAndTheHighestInt() {
        Needlecase x = Maps.of(LOW, HIGH);
        Expect.equal(HIGH, x.floor(HIGH));
        Expect.equal(LOW, x.floor(HIGH - 1));
        Expect.equal(LOW, x.floor(LOW));
        Expect.equal(7, Maps.oneNumber().floor(HIGH));
        Expect.equal(7, Maps.oneNumber().floor(7));
    }

    @Says("Throws NoSuchElementException if there is none")
    static void promise08NoNumberBelow() {
        Twins.noSuchKey(ONE_NUMBER, x -> x.floor(6), x -> x.floor(LOW));
        Twins.noSuchKey(FULL, x -> x.floor(-1), x -> x.floor(LOW));
    }

    @Says("Throws NoSuchElementException if there is none")
    static void promise08NoNumberInTheMap() {
        Twins.noSuchKey(EMPTY, x -> x.floor(LOW), x -> x.floor(0), x -> x.floor(HIGH));
        Twins.noSuchKey(ONE_WORD, x -> x.floor(LOW), x -> x.floor(HIGH));
    }

    // ---- promise 9

    @Says({"Counts the numbers in the map that are below a number.", "Returns how many."})
    static void promise09TheNumberItselfIsNotBelow() {
        Needlecase x = Maps.of(-1, 0, 1);
        Expect.equal(0, x.rank(-2));
        Expect.equal(0, x.rank(-1));
        Expect.equal(1, x.rank(0));
        Expect.equal(2, x.rank(1));
        Expect.equal(3, x.rank(2));
    }

    @Says("key: the number, which need not be in the map")
    static void promise09OfTheLowestAndTheHighestInt() {
        Needlecase x = Maps.of(LOW, 0, HIGH);
        Expect.equal(0, x.rank(LOW));
        Expect.equal(1, x.rank(LOW + 1));
        Expect.equal(2, x.rank(HIGH));
        x.remove(HIGH);
        Expect.equal(2, x.rank(HIGH));
        x.remove(LOW);
        Expect.equal(0, x.rank(LOW + 1));
    }

    @Says({"Counts the numbers in the map that are below a number.", "Returns how many."})
    static void promise09OfAnEmptyAndAFullMap() {
        Expect.equal(0, new Needlecase().rank(HIGH));
        Expect.equal(0, Maps.oneWord().rank(HIGH));
        Expect.equal(0, Maps.oneNumber().rank(7));
        Expect.equal(1, Maps.oneNumber().rank(8));
        Expect.equal(399, Maps.full().rank(399));
        Expect.equal(398, Maps.full().rank(398));
        Expect.equal(400, Maps.fullOfNumbers().rank(HIGH));
        Expect.equal(0, Maps.fullOfNumbers().rank(0));
    }

    // ---- promise 10

    @Says({"Returns the number at a place among all numbers in the map, in their order.", "place: 0 for the lowest one", "Returns the number."})
    static void promise10TheFirstAndTheLastPlace() {
        Needlecase x = Maps.of(HIGH, 0, LOW);
        Expect.equal(LOW, x.select(0));
        Expect.equal(0, x.select(1));
        Expect.equal(HIGH, x.select(2));
        Expect.equal(7, Maps.oneNumber().select(0));
        Expect.equal(0, Maps.full().select(0));
        Expect.equal(398, Maps.full().select(398));
        Expect.equal(399, Maps.fullOfNumbers().select(399));
    }

    @Says("Throws IndexOutOfBoundsException if there are not so many")
    static void promise10APlaceBelow0() {
        Twins.badIndex(EMPTY, x -> x.select(-1));
        Twins.badIndex(MIXED, x -> x.select(-1), x -> x.select(-8), x -> x.select(LOW));
        Twins.badIndex(FULL, x -> x.select(-1));
    }

    @Says("Throws IndexOutOfBoundsException if there are not so many")
    static void promise10APlaceThatIsNotThere() {
        Twins.badIndex(EMPTY, x -> x.select(0), x -> x.select(HIGH));
        Twins.badIndex(ONE_NUMBER, x -> x.select(1));
        Twins.badIndex(ONE_WORD, x -> x.select(0));
        Twins.badIndex(MIXED, x -> x.select(8), x -> x.select(13), x -> x.select(HIGH));
        Twins.badIndex(FULL, x -> x.select(399), x -> x.select(400));
        Twins.badIndex(Maps::fullOfNumbers, x -> x.select(400), x -> x.select(401), x -> x.select(512), x -> x.select(HIGH));
    }

    // ---- promise 11

    @Says("Throws IllegalArgumentException if low is greater than high")
    static void promise11LowGreaterThanHigh() {
        Twins.badArgument(EMPTY, x -> x.sum(1, 0));
        Twins.badArgument(MIXED, x -> x.sum(1, 0), x -> x.sum(0, -1), x -> x.sum(HIGH, LOW), x -> x.sum(LOW + 1, LOW), x -> x.sum(HIGH, HIGH - 1));
    }

    @Says({"low: the lowest number", "high: the highest number", "Returns the sum."})
    static void promise11ARangeOfOneNumberAndItsEnds() {
        Needlecase x = new Needlecase();
        x.put(LOW, 1);
        x.put(-1, 10);
        x.put(0, 100);
        x.put(HIGH, 1000);
        Expect.equal(1L, x.sum(LOW, LOW));
        Expect.equal(1000L, x.sum(HIGH, HIGH));
        Expect.equal(100L, x.sum(0, 0));
        Expect.equal(110L, x.sum(-1, 0));
        Expect.equal(111L, x.sum(LOW, 0));
        Expect.equal(1110L, x.sum(-1, HIGH));
        Expect.equal(0L, x.sum(1, HIGH - 1));
        Expect.equal(1111L, x.sum(LOW, HIGH));
    }

    @Says({"Adds up the values of all numbers of a range.", "Returns the sum."})
    static void promise11ASumThatNoIntHolds() {
        Needlecase x = new Needlecase();
        x.put(1, HIGH);
        x.put(2, 1);
        Expect.equal(2147483648L, x.sum(1, 2));
        x.put(3, LOW);
        x.put(4, LOW);
        Expect.equal(-4294967296L, x.sum(3, 4));
        Expect.equal(-2147483648L, x.sum(1, 4));
    }

    @Says({"Adds up the values of all numbers of a range.", "Returns the sum."})
    static void promise11TheGreatestAndTheLeastSum() {
        Needlecase x = Maps.fullOfNumbers();
        x.load(0, 1, 200, HIGH);
        x.load(200, 1, 200, HIGH);
        Expect.equal(400L * HIGH, x.sum(LOW, HIGH));
        x.load(0, 1, 200, LOW);
        x.load(200, 1, 200, LOW);
        Expect.equal(400L * LOW, x.sum(LOW, HIGH));
    }

    @Says("Adds up the values of all numbers of a range.")
    static void promise11NoNumberAndWords() {
        Expect.equal(0L, new Needlecase().sum(LOW, HIGH));
        Expect.equal(0L, Maps.oneWord().sum(LOW, HIGH));
        Expect.equal(70L, Maps.oneNumber().sum(LOW, HIGH));
        Needlecase x = Maps.full();
        x.putWord(1000);
        Expect.equal(399L, x.sum(LOW, HIGH));
    }

    // ---- promise 12

    @Says({"bytes: in how many of the four bytes, 0 to 4", "Throws IllegalArgumentException if bytes is out of its range"})
    static void promise12MinusOneByteAndFive() {
        Twins.badArgument(EMPTY, x -> x.countPrefix(0, -1), x -> x.countPrefix(0, 5));
        Twins.badArgument(MIXED, x -> x.countPrefix(1, -1), x -> x.countPrefix(1, 5), x -> x.countPrefix(1, LOW), x -> x.countPrefix(1, HIGH));
    }

    @Says("bytes: in how many of the four bytes, 0 to 4")
    static void promise12NoByteIsAgreedInByAllNumbers() {
        Needlecase x = Maps.mixed();
        for (int number : new int[] {LOW, -1, 0, 5, HIGH}) {
            Expect.equal(8, x.countPrefix(number, 0));
        }
        Expect.equal(0, new Needlecase().countPrefix(0, 0));
        Expect.equal(0, Maps.oneWord().countPrefix(0, 0));
        Expect.equal(400, Maps.fullOfNumbers().countPrefix(-1, 0));
    }

    @Says({"bytes: in how many of the four bytes, 0 to 4", "key: the number, which need not be in the map"})
    static void promise12FourBytesAreTheNumberItself() {
        Needlecase x = Maps.mixed();
        for (int number : new int[] {LOW, -1, 0, 300, HIGH}) {
            Expect.equal(1, x.countPrefix(number, 4));
        }
        for (int number : new int[] {LOW + 1, -2, 3, 44, 256 + 45, HIGH - 1}) {
            Expect.equal(0, x.countPrefix(number, 4));
        }
    }

    @Says({"Counts the numbers in the map that agree with a number in their highest bytes.", "Returns how many."})
    static void promise12EachByteCounts() {
        Needlecase x = Maps.of(0x7f000000, 0x7f010000, 0x7f010100, 0x7f010101, 0x7f010102, -1, -256, -65536, -(1 << 24));
        int[] high = {9, 5, 4, 3, 1};
        int[] negative = {9, 4, 3, 2, 1};
        for (int bytes = 0; bytes <= 4; bytes++) {
            Expect.equal(high[bytes], x.countPrefix(0x7f010101, bytes));
            Expect.equal(negative[bytes], x.countPrefix(-1, bytes));
        }
        Expect.equal(3, x.countPrefix(0x7f0101ff, 3));
        Expect.equal(0, x.countPrefix(0x7f0101ff, 4));
        Expect.equal(0, x.countPrefix(0, 1));
        Expect.equal(0, x.countPrefix(LOW, 1));
    }

    @Says("Counts the numbers in the map that agree with a number in their highest bytes.")
    static void promise12OfAFullMap() {
        Needlecase x = Maps.fullOfNumbers();
        Expect.equal(400, x.countPrefix(0, 1));
        Expect.equal(400, x.countPrefix(0xffff, 2));
        Expect.equal(256, x.countPrefix(255, 3));
        Expect.equal(144, x.countPrefix(256, 3));
        Expect.equal(0, x.countPrefix(512, 3));
    }
}
