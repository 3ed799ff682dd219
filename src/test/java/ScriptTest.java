/**
 * Runs in which several sentences of the document meet. Behind every call of a run all that can be asked
 * of the map must be as the model answers it; each reading has the run made again on a new object.
 */
final class ScriptTest {
    private static final int LOW = Integer.MIN_VALUE;
    private static final int HIGH = Integer.MAX_VALUE;
    private static final int[] SIZES = {4, 16, 48, 256};
    private static final String[] TREE = {
        "size", "height", "pathBytes", "grown", "shrunk", "footprint", "countWords", "rankWord",
    };

    /** A longer run is not looked at behind each call, but behind each second, third or fourth. */
    private static final int MOST_LOOKS = 128;
    private static final int CALLS_A_NUMBER = 11;

    /** As many as next, value and a place behind the last of twelve letters take. */
    private static final int CALLS_A_WORD = 15;

    private ScriptTest() {
    }

    private static void holds(Script script) {
        int stride = script.size() / MOST_LOOKS + 1;
        for (int calls = script.size(); calls > 0; calls -= stride) {
            readTree(script.upTo(calls));
            readWritten(script.upTo(calls));
            readWalk(script.upTo(calls));
            readWords(script.upTo(calls));
            // From another place each time, since not all numbers can be asked for in one run.
            readNumbers(script.upTo(calls), 37 * calls);
        }
    }

    private static void readTree(Pair pair) {
        for (int size : SIZES) {
            if (pair.callsLeft() > 0) {
                pair.ask("nodes", size);
            }
        }
        for (String name : TREE) {
            if (pair.callsLeft() > 0) {
                pair.ask(name);
            }
        }
    }

    private static void readWritten(Pair pair) {
        boolean more = true;
        while (more && pair.callsLeft() >= 4) {
            pair.ask("getWord");
            pair.ask("countWords");
            pair.ask("rankWord");
            more = !Pair.isThrown(pair.ask("back"));
        }
    }

    /** Where the walk stands, and where it leads. */
    private static void readWalk(Pair pair) {
        boolean more = true;
        while (more && pair.callsLeft() >= 5) {
            pair.ask("number");
            pair.ask("value");
            pair.ask("letterAt", 0);
            pair.ask("letterAt", 12);
            more = pair.ask("next").equals("true");
        }
    }

    private static void readWords(Pair pair) {
        if (pair.callsLeft() >= 2) {
            pair.ask("clear");
            pair.ask("walkWords");
        }
        while (pair.callsLeft() >= CALLS_A_WORD && pair.ask("next").equals("true")) {
            pair.ask("value");
            int place = 0;
            while (!Pair.isThrown(pair.ask("letterAt", place))) {
                place++;
            }
        }
    }

    private static void readNumbers(Pair pair, int from) {
        int numbers = pair.model.rank(HIGH) + 1;
        for (int i = 0; i < numbers && pair.callsLeft() >= CALLS_A_NUMBER; i++) {
            String answer = pair.ask("select", (from + i) % numbers);
            if (!Pair.isThrown(answer)) {
                readNumber(pair, Integer.parseInt(answer));
            }
        }
    }

    private static void readNumber(Pair pair, int number) {
        pair.ask("get", number);
        pair.ask("depth", number);
        pair.ask("rank", number);
        pair.ask("ceiling", number + 1);
        pair.ask("floor", number - 1);
        pair.ask("sum", LOW, number);
        for (int bytes = 1; bytes <= 4; bytes++) {
            pair.ask("countPrefix", number, bytes);
        }
    }

    // ---- loads, ranges and single calls in turn, with words between them

    static void loadsRangesAndSingleCallsWithWordsBetween() {
        holds(new Script()
            .call("load", -300, 7, 60, 5).putWord("maple", 1).call("load", -300, 14, 30, 6)
            .call("removeRange", -100, 99).call("put", 0, 9).putWord("map", 2).letters("s").call("putWord", 3)
            .call("load", 250, 1, 50, 7).call("removeRange", 256, 298).call("put", 257, 1).call("back")
            .call("removeWord").call("load", 65536, 256, 49, 8).call("removeRange", 65536 + 40 * 256, HIGH)
            .call("put", 65535, 2).call("remove", 65536).putWord("ma", 4).call("load", 65535, -1, 20, LOW)
            .call("load", 65280, 1, 200, HIGH).call("removeRange", 65300, 65500).write("maple").call("removeWord")
            .call("remove", 0).call("removeRange", LOW, -1).call("load", HIGH, -16777216, 200, 3)
            .call("back").call("putWord", 5).call("removeRange", LOW, 0).call("removeRange", 0, HIGH)
            .call("load", LOW, 1, 17, 1).call("removeRange", LOW, HIGH).call("put", HIGH, 1));
    }

    static void sizesUpAndDownWithWordsBetween() {
        Script script = new Script();
        for (int round = 0; round < 3; round++) {
            int first = round * 65536 - 65536;
            script.call("load", first, 1, 4, round).putWord("b", round).call("put", first + 4, 1)
                .call("load", first + 5, 1, 11, 2).letters("b").call("putWord", 3).call("put", first + 16, 4)
                .call("load", first + 17, 1, 31, 5).call("put", first + 48, 6).call("removeRange", first + 41, first + 255)
                .call("remove", first + 7).call("put", first + 7, 7).call("removeRange", first + 13, first + 48)
                .call("back").call("remove", first).call("removeRange", first + 4, first + 12).call("removeWord")
                .call("remove", first + 2);
        }
        holds(script.call("removeRange", LOW, 65537).call("removeRange", LOW, HIGH));
    }

    static void wordsInWordsWithNumbersBetween() {
        Script script = new Script();
        for (char letter = 'a'; letter <= 'z'; letter++) {
            script.letters("q").call("putWord", (int) letter).call("back").letters("" + letter).call("putWord", -letter)
                .call("put", letter * 256, 1).call("back");
            if (letter % 6 == 0) {
                script.letters("" + letter);
            }
        }
        script.call("removeRange", LOW, HIGH);
        for (int i = 0; i < 5; i++) {
            script.call("removeWord").call("back").call("removeWord");
        }
        holds(script);
    }

    static void aMapThatIsFull() {
        holds(new Script()
            .call("load", 0, 3, 200, 1).call("load", -3, -3, 198, 2).putWord("zebra", 1).call("put", 1, 1)
            .call("put", 2, 1).call("put", 0, 7).call("load", 1, 1, 1, 8).call("load", 0, 3, 200, 9)
            .call("load", 0, 1, 2, 4).call("load", 0, 0, 2, 4).call("load", HIGH, 1, 2, 4).letters("s")
            .call("putWord", 2).call("back").call("putWord", 3).call("remove", 2).call("removeWord")
            .call("load", 3, -1, 3, 5).call("load", 0, -1, 3, 5).call("putWord", 4).call("removeRange", -30, 30)
            .letters("s").call("putWord", 5).call("load", -40, 1, 19, 6).call("load", -21, 1, 2, 6)
            .call("removeRange", LOW, HIGH).call("load", 0, 256, 200, 7).call("load", 1, 256, 198, 7)
            .call("put", LOW, 8));
    }

    // ---- a walk that takes keys out

    static void aWalkThroughNumbersTakesEachKeyOut() {
        holds(new Script().call("load", 240, 1, 50, 3).putWord("a", 1).call("walk", 0, HIGH)
            .times(51, "next", "removeHere").call("removeWord").call("next"));
    }

    static void aWalkThroughNumbersTakesEachThirdKeyOut() {
        holds(new Script().call("load", -128 * 65536, 65536, 180, 3).call("load", 1, 256, 60, 4).call("walk", LOW, HIGH)
            .times(80, "next", "next", "removeHere", "next").call("walk", LOW, 0).times(30, "next", "removeHere"));
    }

    static void aWalkThroughWordsTakesKeysOut() {
        Script script = new Script().call("load", 97, 1, 26, 1);
        String[] words = {"a", "ab", "abc", "abcd", "abcdefghijkl", "abcdefghijkm", "abd", "ac", "b", "ba", "z"};
        for (String word : words) {
            script.putWord(word, word.length());
        }
        holds(script.write("ab").call("walkWords").call("next").call("next").call("removeHere").call("next")
            .call("removeHere").call("removeHere").times(4, "next", "removeHere").call("next").call("clear")
            .call("walkWords").times(6, "next", "removeHere").call("remove", 97).call("next"));
    }

    static void aWalkTakesTheLastKeysOfTheMapOut() {
        holds(new Script().call("put", LOW, 1).call("put", HIGH, 2).putWord("zzzzzzzzzzzz", 3).putWord("zzzzzzzzzzzy", 4)
            .call("walkWords").times(2, "next", "removeHere").call("back").call("walkWords").times(2, "next", "removeHere")
            .call("walk", LOW, HIGH).times(3, "next", "removeHere").call("put", 0, 5).call("next").call("walk", 0, 0)
            .times(2, "next", "removeHere"));
    }

    // ---- a walk begun in place of another

    static void aWalkInPlaceOfAnother() {
        holds(new Script().call("next").call("load", -10, 5, 9, 1).putWord("ant", 1).letters("s").call("putWord", 2)
            .call("walk", -5, 20).call("next").call("next").call("walk", 0, HIGH).call("next").call("removeHere")
            .call("walkWords").call("next").call("removeHere").call("walk", 1, 0).call("next").call("walk", -10, -10)
            .call("next").call("put", -10, 7).call("walk", -10, -10).call("put", -9, 8).call("next").call("removeHere")
            .call("walk", 5, -5).call("value").call("back").call("walkWords").call("next").call("number")
            .call("walk", -10, 5).times(3, "next").call("removeRange", 15, 16).call("number").call("walk", -10, 5)
            .call("removeRange", 16, 19).times(2, "next", "number", "removeHere").call("walkWords").call("walkWords")
            .times(2, "next", "removeHere"));
    }

    // ---- letters written while a walk of words goes on

    static void lettersWrittenWhileAWalkOfWordsGoesOn() {
        Script script = new Script();
        for (String word : new String[] {"o", "oa", "oak", "oaks", "oar", "oat", "ob", "p"}) {
            script.putWord(word, word.charAt(word.length() - 1));
        }
        holds(script.write("oa").call("walkWords").letters("k").call("next").call("letterAt", 1).call("letterAt", 2)
            .call("putWord", 1000).call("next").call("value").call("back").call("back").call("next").letters("x")
            .call("removeHere").call("letter", 'A').call("next").call("getWord").call("clear").call("back")
            .call("removeHere").call("countWords").letters("zzzzzzzzzzzz").call("letter", 'z').call("next")
            .call("rankWord").call("getWord").call("next").call("next").write("oat").call("removeWord").call("next")
            .write("o").call("walkWords").call("next").call("removeHere").call("getWord").call("putWord", 1).call("next"));
    }

    static void aWalkIsSpoiledByTheWrittenWord() {
        holds(new Script().putWord("fig", 1).letters("s").call("walkWords").call("next").call("putWord", 2).call("next")
            .call("walkWords").call("next").call("putWord", 3).call("value").call("removeWord").call("value")
            .call("removeWord").call("back").call("walkWords").call("next").call("put", 0, 0).call("letterAt", 0)
            .call("letterAt", 3).call("walkWords").call("next").call("removeHere").call("putWord", 4).call("removeHere"));
    }
}
