import java.lang.reflect.Method;
import java.util.TreeSet;

/** Runs of mixed calls, each answered as the model answers it. The same runs every time. */
final class ModelTest {
    private static final int RUNS = 1200;
    private static final int[] EDGES = {
        Integer.MIN_VALUE, Integer.MIN_VALUE + 1, -65536, -257, -256, -255, -1, 0, 1, 2, 255, 256, 257, 65535,
        65536, 1 << 24, Integer.MAX_VALUE - 1, Integer.MAX_VALUE,
    };
    private static final int[] STEPS = {1, 1, 1, -1, 2, 3, -7, 255, 256, 257, -256, 65536, 1 << 24, 21474836};
    private static final String[] ALPHABETS = {"a", "ab", "az", "abc", "abcdefghijklmnopqrstuvwxyz"};

    /** Calls for numbers, for words, all calls, and what a walk needs; each run mixes them in its own way. */
    private static final String[][] KINDS = {
        {"put", "put", "get", "remove", "load", "removeRange", "ceiling", "floor", "rank", "select", "sum", "countPrefix"},
        {"letter", "letter", "letter", "back", "clear", "putWord", "putWord", "putWord", "getWord", "removeWord",
            "countWords", "rankWord"},
        {"size", "nodes", "height", "pathBytes", "depth", "grown", "shrunk", "footprint"},
        {"walk", "walkWords", "next", "next", "next", "next", "number", "letterAt", "value", "removeHere"},
        {"put", "remove", "next", "removeHere", "load"},
    };

    private final TreeSet<String> outcomes = new TreeSet<>();
    private long dice;

    private ModelTest() {
    }

    static void promises01To35AnswerAsTheModel() {
        ModelTest test = new ModelTest();
        for (int run = 0; run < RUNS; run++) {
            test.run(run);
        }
        test.everyOutcomeWasSeen();
    }

    private int upTo(int bound) {
        dice = dice * 6364136223846793005L + 1442695040888963407L;
        return (int) ((dice >>> 33) % bound);
    }

    private int pick(int[] from) {
        return from[upTo(from.length)];
    }

    private void run(int run) {
        dice = run * 7919L + 17;
        Pair pair = new Pair();
        int taste = run % 6;
        String alphabet = ALPHABETS[run / 6 % ALPHABETS.length];
        while (pair.callsLeft() > 0) {
            String name = nameOf(taste);
            String answer = pair.ask(name, argumentsOf(name, taste, alphabet, pair.model));
            outcomes.add(name + " " + (Pair.isThrown(answer) ? answer : "answers"));
        }
    }

    private String nameOf(int taste) {
        int kind = upTo(10);
        if (kind < 4) {
            kind = taste < 2 ? 0 : taste < 4 ? 1 : upTo(2);
        } else if (kind < 7) {
            kind = 2 + upTo(2);
        } else {
            kind = upTo(KINDS.length);
        }
        String name = KINDS[kind][upTo(KINDS[kind].length)];
        boolean rarely = upTo(4) > 0;
        return rarely && (name.equals("removeRange") || name.equals("clear") || name.equals("walk")) ? "next" : name;
    }

    private int number(int taste, Model model) {
        if (upTo(12) == 0) {
            return pick(EDGES);
        }
        if (upTo(3) == 0 && model.rank(Integer.MAX_VALUE) > 0) {
            return model.select(upTo(model.rank(Integer.MAX_VALUE))) + upTo(3) - 1;
        }
        switch (taste) {
            case 0:
                return upTo(300);
            case 1:
                return (upTo(60) - 30) * 256 + upTo(3);
            case 2:
                return upTo(20) - 10;
            case 3:
                return (upTo(5) - 2) << 24 | upTo(5) << 16 | upTo(5) << 8 | upTo(5);
            default:
                return upTo(1 << 16) << 16 ^ upTo(1 << 16);
        }
    }

    private Object[] range(int taste, Model model) {
        int low = number(taste, model);
        int high = upTo(2) == 0 ? number(taste, model) : low + upTo(60);
        boolean turn = low > high && upTo(8) > 0;
        return new Object[] {turn ? high : low, turn ? low : high};
    }

    private Object[] argumentsOf(String name, int taste, String alphabet, Model model) {
        switch (name) {
            case "put":
                return new Object[] {number(taste, model), value()};
            case "get", "remove", "ceiling", "floor", "rank", "depth":
                return new Object[] {number(taste, model)};
            case "load":
                int step = upTo(20) == 0 ? 0 : pick(STEPS);
                int count = upTo(3) == 0 ? upTo(203) : upTo(30);
                return new Object[] {number(taste, model), step, count, value()};
            case "removeRange", "sum", "walk":
                return range(taste, model);
            case "select":
                return new Object[] {upTo(30) == 0 ? pick(EDGES) : upTo(model.size() + 2) - 1};
            case "countPrefix":
                return new Object[] {number(taste, model), upTo(7) - 1};
            case "letter":
                return new Object[] {upTo(30) == 0 ? "A`{\u0161".charAt(upTo(4)) : alphabet.charAt(upTo(alphabet.length()))};
            case "putWord":
                return new Object[] {value()};
            case "nodes":
                return new Object[] {pick(new int[] {4, 16, 48, 256, 4, 16, 48, 256, 5})};
            case "letterAt":
                return new Object[] {upTo(14) - 1};
            default:
                return new Object[0];
        }
    }

    private int value() {
        return upTo(5) == 0 ? pick(EDGES) : upTo(1000);
    }

    /** Otherwise the runs would not show what they are there for. */
    private void everyOutcomeWasSeen() {
        TreeSet<String> due = new TreeSet<>();
        for (Method method : Pair.FACE.values()) {
            due.add(method.getName() + " answers");
            for (Class<?> kind : method.getExceptionTypes()) {
                due.add(method.getName() + " throws." + kind.getName());
            }
        }
        Expect.equal(due, outcomes);
    }
}
