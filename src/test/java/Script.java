import java.util.ArrayList;
import java.util.List;

/** A run of calls, told ahead, so that it can be made again on new objects up to any of its calls. */
final class Script {
    private final List<String> names = new ArrayList<>();
    private final List<Object[]> arguments = new ArrayList<>();

    Script call(String name, Object... args) {
        names.add(name);
        arguments.add(args);
        return this;
    }

    /** Each call once, in turn, and all that so many times. */
    Script times(int count, String... calls) {
        for (int i = 0; i < count; i++) {
            for (String name : calls) {
                call(name);
            }
        }
        return this;
    }

    Script letters(String letters) {
        for (char letter : letters.toCharArray()) {
            call("letter", letter);
        }
        return this;
    }

    /** Writes a word in place of the one that is written. */
    Script write(String word) {
        return call("clear").letters(word);
    }

    Script putWord(String word, int value) {
        return write(word).call("putWord", value);
    }

    int size() {
        return names.size();
    }

    /** Makes the first calls on a new map and a new model; each answer must be the model's. */
    Pair upTo(int calls) {
        Pair pair = new Pair();
        for (int i = 0; i < calls; i++) {
            pair.ask(names.get(i), arguments.get(i));
        }
        return pair;
    }
}
