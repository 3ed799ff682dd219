import java.util.ArrayList;
import java.util.ConcurrentModificationException;
import java.util.HashMap;
import java.util.List;
import java.util.Map;
import java.util.NoSuchElementException;
import java.util.TreeMap;

/**
 * The document read word by word, for comparison: keys are texts of signs 0 to 255, and for every
 * beginning of a key it counts the keys behind it by their next byte. The face is Needlecase's.
 */
final class Model {
    private final TreeMap<String, Integer> keys = new TreeMap<>();
    private final Map<String, TreeMap<Character, Integer>> behind = new HashMap<>();
    private final Map<String, Integer> sizes = new HashMap<>();
    private String word = "";
    private int grown = 0;
    private int shrunk = 0;
    private int turns = 0;

    private List<String> route = null;
    private int routeNext;
    private int routeTurns;
    private String here;

    private static String row(int number) {
        long place = number - (long) Integer.MIN_VALUE;
        return "\u0001" + (char) (place >> 24) + (char) (place >> 16 & 255) + (char) (place >> 8 & 255)
            + (char) (place & 255);
    }

    private static String row(String word) {
        return "\u0002" + word + "\u0000";
    }

    private static boolean isNumber(String key) {
        return key.charAt(0) == 1;
    }

    private static int numberOf(String key) {
        long place = 0;
        for (int i = 1; i <= 4; i++) {
            place = place * 256 + key.charAt(i);
        }
        return (int) (place + Integer.MIN_VALUE);
    }

    private void come(String key, int value) {
        keys.put(key, value);
        turns++;
        for (int length = 0; length < key.length(); length++) {
            String beginning = key.substring(0, length);
            TreeMap<Character, Integer> children = behind.computeIfAbsent(beginning, b -> new TreeMap<>());
            boolean fresh = !children.containsKey(key.charAt(length));
            children.merge(key.charAt(length), 1, Integer::sum);
            if (fresh && children.size() == 2) {
                sizes.put(beginning, 4);
            } else if (fresh && children.size() > 2 && children.size() > sizes.get(beginning)) {
                int size = sizes.get(beginning);
                sizes.put(beginning, size == 4 ? 16 : size == 16 ? 48 : 256);
                grown++;
            }
        }
    }

    private int go(String key) {
        turns++;
        for (int length = 0; length < key.length(); length++) {
            String beginning = key.substring(0, length);
            TreeMap<Character, Integer> children = behind.get(beginning);
            boolean last = children.get(key.charAt(length)) == 1;
            if (!last) {
                children.merge(key.charAt(length), -1, Integer::sum);
                continue;
            }
            children.remove(key.charAt(length));
            Integer size = sizes.get(beginning);
            int left = children.size();
            if (left == 1) {
                sizes.remove(beginning);
            } else if (size != null && (size == 256 && left == 40 || size == 48 && left == 12 || size == 16 && left == 3)) {
                sizes.put(beginning, size == 256 ? 48 : size == 48 ? 16 : 4);
                shrunk++;
            }
        }
        return keys.remove(key);
    }

    private List<String> numbers(int low, int high) {
        List<String> found = new ArrayList<>();
        for (String key : keys.keySet()) {
            if (isNumber(key) && numberOf(key) >= low && numberOf(key) <= high) {
                found.add(key);
            }
        }
        return found;
    }

    private List<String> words(String beginning) {
        List<String> found = new ArrayList<>();
        for (String key : keys.keySet()) {
            if (key.startsWith("\u0002" + beginning)) {
                found.add(key);
            }
        }
        return found;
    }

    private boolean putKey(String key, int value) {
        if (keys.containsKey(key)) {
            keys.put(key, value);
            return false;
        }
        if (keys.size() == 400) {
            throw new IllegalStateException();
        }
        come(key, value);
        return true;
    }

    private String present(String key) {
        if (!keys.containsKey(key)) {
            throw new NoSuchElementException();
        }
        return key;
    }

    private static void checkRange(int low, int high) {
        if (low > high) {
            throw new IllegalArgumentException();
        }
    }

    public boolean put(int key, int value) {
        return putKey(row(key), value);
    }

    public int get(int key) {
        return keys.get(present(row(key)));
    }

    public int remove(int key) {
        return go(present(row(key)));
    }

    public int load(int first, int step, int count, int value) {
        if (step == 0 || count < 1 || count > 200 || first + (count - 1L) * step != (int) (first + (count - 1L) * step)) {
            throw new IllegalArgumentException();
        }
        int fresh = 0;
        for (long i = 0; i < count; i++) {
            if (!keys.containsKey(row((int) (first + i * step)))) {
                fresh++;
            }
        }
        if (keys.size() + fresh > 400) {
            throw new IllegalStateException();
        }
        for (long i = 0; i < count; i++) {
            put((int) (first + i * step), value);
        }
        return fresh;
    }

    public int removeRange(int low, int high) {
        checkRange(low, high);
        List<String> found = numbers(low, high);
        for (String key : found) {
            go(key);
        }
        return found.size();
    }

    public int ceiling(int key) {
        List<String> found = numbers(key, Integer.MAX_VALUE);
        if (found.isEmpty()) {
            throw new NoSuchElementException();
        }
        return numberOf(found.get(0));
    }

    public int floor(int key) {
        List<String> found = numbers(Integer.MIN_VALUE, key);
        if (found.isEmpty()) {
            throw new NoSuchElementException();
        }
        return numberOf(found.get(found.size() - 1));
    }

    public int rank(int key) {
        return key == Integer.MIN_VALUE ? 0 : numbers(Integer.MIN_VALUE, key - 1).size();
    }

    public int select(int place) {
        List<String> found = numbers(Integer.MIN_VALUE, Integer.MAX_VALUE);
        if (place < 0 || place >= found.size()) {
            throw new IndexOutOfBoundsException();
        }
        return numberOf(found.get(place));
    }

    public long sum(int low, int high) {
        checkRange(low, high);
        long sum = 0;
        for (String key : numbers(low, high)) {
            sum += keys.get(key);
        }
        return sum;
    }

    public int countPrefix(int key, int bytes) {
        if (bytes < 0 || bytes > 4) {
            throw new IllegalArgumentException();
        }
        int count = 0;
        for (String other : keys.keySet()) {
            if (other.startsWith(row(key).substring(0, 1 + bytes))) {
                count++;
            }
        }
        return count;
    }

    public int letter(char letter) {
        if (letter < 'a' || letter > 'z') {
            throw new IllegalArgumentException();
        }
        if (word.length() == 12) {
            throw new IllegalStateException();
        }
        word += letter;
        return word.length();
    }

    public int back() {
        if (word.isEmpty()) {
            throw new IllegalStateException();
        }
        word = word.substring(0, word.length() - 1);
        return word.length();
    }

    public void clear() {
        word = "";
    }

    public boolean putWord(int value) {
        if (word.isEmpty()) {
            throw new IllegalStateException();
        }
        return putKey(row(word), value);
    }

    public int getWord() {
        return keys.get(present(row(word)));
    }

    public int removeWord() {
        return go(present(row(word)));
    }

    public int countWords() {
        return words(word).size();
    }

    public int rankWord() {
        int count = 0;
        for (String key : words("")) {
            if (key.substring(1, key.length() - 1).compareTo(word) < 0) {
                count++;
            }
        }
        return count;
    }

    public int size() {
        return keys.size();
    }

    public int nodes(int size) {
        if (size != 4 && size != 16 && size != 48 && size != 256) {
            throw new IllegalArgumentException();
        }
        int count = 0;
        for (int other : sizes.values()) {
            if (other == size) {
                count++;
            }
        }
        return count;
    }

    private int innersAbove(String key) {
        int count = 0;
        for (int length = 0; length < key.length(); length++) {
            if (sizes.containsKey(key.substring(0, length))) {
                count++;
            }
        }
        return count;
    }

    public int height() {
        int height = 0;
        for (String key : keys.keySet()) {
            height = Math.max(height, innersAbove(key));
        }
        return height;
    }

    public int pathBytes() {
        int bytes = 0;
        for (String branching : sizes.keySet()) {
            int path = branching.length();
            for (int length = 0; length < branching.length(); length++) {
                if (sizes.containsKey(branching.substring(0, length))) {
                    path = branching.length() - length - 1;
                }
            }
            bytes += path;
        }
        return bytes;
    }

    public int depth(int key) {
        return innersAbove(present(row(key)));
    }

    public int grown() {
        return grown;
    }

    public int shrunk() {
        return shrunk;
    }

    public int footprint() {
        return 52 * nodes(4) + 160 * nodes(16) + 656 * nodes(48) + 2064 * nodes(256) + pathBytes();
    }

    private void begin(List<String> found) {
        route = found;
        routeNext = 0;
        routeTurns = turns;
        here = null;
    }

    private void checkWalk() {
        if (route != null && routeTurns != turns) {
            throw new ConcurrentModificationException();
        }
        if (route == null) {
            throw new IllegalStateException();
        }
    }

    private String standing() {
        checkWalk();
        if (here == null) {
            throw new IllegalStateException();
        }
        return here;
    }

    public void walk(int low, int high) {
        checkRange(low, high);
        begin(numbers(low, high));
    }

    public void walkWords() {
        begin(words(word));
    }

    public boolean next() {
        checkWalk();
        here = routeNext < route.size() ? route.get(routeNext++) : null;
        return here != null;
    }

    public int number() {
        if (!isNumber(standing())) {
            throw new IllegalStateException();
        }
        return numberOf(here);
    }

    public char letterAt(int place) {
        if (isNumber(standing())) {
            throw new IllegalStateException();
        }
        if (place < 0 || place >= here.length() - 2) {
            throw new IndexOutOfBoundsException();
        }
        return here.charAt(1 + place);
    }

    public int value() {
        return keys.get(standing());
    }

    public int removeHere() {
        int value = go(standing());
        here = null;
        routeTurns = turns;
        return value;
    }
}
