/** Promises 10 to 18 at their bounds: the first and the last record, and where there is none. */
public final class MapBoundsTest {
    private static final long LAST = Check.word("zzzzzzzzzzzz");

    public static void main(String[] args) {
        emptyMap();
        oneRecord();
        hundredRecords();
        neighbours();
        prefixes();
        frequencies();
        equalFrequencies();
        ranges();
        greatSums();
        nothingCounted();
        Check.finish();
    }

    private static long w(String letters) {
        return Check.word(letters);
    }

    private static BurstTrie map(String... words) {
        BurstTrie x = new BurstTrie();
        Check.putAll(x, words);
        return x;
    }

    private static void noPlace(BurstTrie x, int index) {
        Check.dueThrow(IndexOutOfBoundsException.class, () -> x.keyAt(index), "keyAt " + index);
        Check.dueThrow(IndexOutOfBoundsException.class, () -> x.mostFrequent(index), "mostFrequent " + index);
    }

    private static void emptyMap() {
        BurstTrie x = new BurstTrie();
        for (long key : new long[] {0, w("a"), LAST}) {
            Check.due(-1, () -> x.frequency(key), "frequency");
            Check.due(-1, () -> x.lower(key), "lower");
            Check.due(-1, () -> x.ceiling(key), "ceiling");
            Check.due(-1, () -> x.longestPrefix(key), "longestPrefix");
            Check.due(0, () -> x.prefixCount(key), "prefixCount");
            Check.due(0, () -> x.sum(0, key), "sum");
        }
        Check.due(0, () -> x.size(), "size");
        noPlace(x, -1);
        noPlace(x, 0);
    }

    private static void oneRecord() {
        for (long key : new long[] {0, w("m"), LAST}) {
            BurstTrie x = new BurstTrie();
            x.put(key, 7);
            Check.due(1, () -> x.size(), "size");
            Check.due(0, () -> x.frequency(key), "frequency");
            Check.due(key, () -> x.keyAt(0), "keyAt 0");
            Check.due(key, () -> x.mostFrequent(0), "mostFrequent 0");
            noPlace(x, -1);
            noPlace(x, 1);
            Check.due(-1, () -> x.lower(key), "lower than the only one");
            Check.due(key, () -> x.ceiling(key), "ceiling of the only one");
            Check.due(key, () -> x.ceiling(0), "ceiling of the least key");
            Check.due(key == LAST ? -1 : key, () -> x.lower(LAST), "lower than the greatest key");
            Check.due(key == LAST ? key : -1, () -> x.ceiling(LAST), "ceiling of the greatest key");
            Check.due(key == LAST ? 0 : 7, () -> x.sum(0, LAST), "sum up to before the greatest key");
            Check.due(1, () -> x.prefixCount(0), "prefixCount of all");
            Check.due(1, () -> x.prefixCount(key), "prefixCount of the key");
            Check.due(key, () -> x.longestPrefix(key), "longestPrefix of the key");
        }
    }

    private static void hundredRecords() {
        BurstTrie x = new BurstTrie();
        for (int i = 99; i >= 0; i--) {
            x.put((i / 10 + 1L) << 55 | (i % 10 + 1L) << 50, i);
            int size = 100 - i;
            Check.due(size, () -> x.size(), "size " + size);
        }
        for (int i = 0; i < 100; i++) {
            int place = i;
            long key = (i / 10 + 1L) << 55 | (i % 10 + 1L) << 50;
            Check.due(key, () -> x.keyAt(place), "keyAt " + i);
            Check.due(key, () -> x.mostFrequent(place), "mostFrequent " + i);
        }
        noPlace(x, -1);
        noPlace(x, 100);
        Check.due(99 * 50, () -> x.sum(0, LAST), "sum of all");
    }

    /** "less than a key", "not less than a key". */
    private static void neighbours() {
        BurstTrie x = map("b", "ba", "bb", "c");
        String[] keys = {"", "a", "azzzzzzzzzzz", "b", "baaaaaaaaaaa", "ba", "bazzzzzzzzzz", "bb", "bz", "c",
            "caaaaaaaaaaa", "d"};
        String[] lower = {null, null, null, null, "ba", "b", "ba", "ba", "bb", "bb", "c", "c"};
        String[] ceiling = {"b", "b", "b", "b", "bb", "ba", "bb", "bb", "c", "c", null, null};
        for (int i = 0; i < keys.length; i++) {
            long key = w(keys[i]);
            Check.due(lower[i] == null ? -1 : w(lower[i]), () -> x.lower(key), "lower " + keys[i]);
            Check.due(ceiling[i] == null ? -1 : w(ceiling[i]), () -> x.ceiling(key), "ceiling " + keys[i]);
        }
    }

    /** "the longest key in the map that a word begins with". */
    private static void prefixes() {
        BurstTrie x = map("ab", "abcd", "b");
        String[] words = {"", "a", "ab", "abc", "abcd", "abcde", "abce", "abd", "ac", "b", "bzzzzzzzzzzz", "c"};
        String[] longest = {null, null, "ab", "ab", "abcd", "abcd", "ab", "ab", null, "b", "b", null};
        int[] counts = {3, 2, 2, 1, 1, 0, 0, 0, 0, 1, 0, 0};
        for (int i = 0; i < words.length; i++) {
            long word = w(words[i]);
            int count = counts[i];
            Check.due(longest[i] == null ? -1 : w(longest[i]), () -> x.longestPrefix(word), "of " + words[i]);
            Check.due(count, () -> x.prefixCount(word), "prefixCount " + words[i]);
        }
        x.put(0, 1);
        Check.due(0, () -> x.longestPrefix(w("zz")), "each word begins with the empty one");
    }

    private static void order(BurstTrie x, String... words) {
        for (int i = 0; i < words.length; i++) {
            int place = i;
            Check.due(w(words[i]), () -> x.mostFrequent(place), "mostFrequent " + i);
        }
        noPlace(x, words.length);
    }

    /** "by descending frequency, equal ones by ascending key". */
    private static void frequencies() {
        BurstTrie x = map("c", "a", "b", "d");
        order(x, "a", "b", "c", "d");
        x.get(w("d"));
        order(x, "d", "a", "b", "c");
        x.get(w("b"));
        order(x, "b", "d", "a", "c");
        x.get(w("d"));
        order(x, "d", "b", "a", "c");
        x.remove(w("d"));
        order(x, "b", "a", "c");
        x.put(w("d"), 1);
        order(x, "b", "a", "c", "d");
    }

    private static void equalFrequencies() {
        BurstTrie x = map("c", "a", "b");
        for (String word : new String[] {"b", "c", "a", "a", "c", "b"}) {
            x.get(w(word));
        }
        order(x, "a", "b", "c");
        Check.due(2, () -> x.frequency(w("c")), "their frequency");
    }

    /** "least key of the range", "the range ends before this key", "0 if from is not less than to". */
    private static void ranges() {
        BurstTrie x = new BurstTrie();
        x.put(w("b"), 1);
        x.put(w("d"), 10);
        x.put(w("f"), 100);
        Object[][] sums = {{"b", "f", 11}, {"b", "fa", 111}, {"ba", "f", 10}, {"", "b", 0}, {"", "ba", 1},
            {"d", "d", 0}, {"d", "da", 10}, {"c", "d", 0}, {"f", "zzzzzzzzzzzz", 100}, {"fa", "z", 0},
            {"f", "b", 0}, {"e", "d", 0}, {"zzzzzzzzzzzz", "", 0}, {"", "zzzzzzzzzzzz", 111}, {"", "", 0}};
        for (Object[] sum : sums) {
            Check.due(sum[2], () -> x.sum(w((String) sum[0]), w((String) sum[1])), sum[0] + " to " + sum[1]);
        }
    }

    /** The sum is a long: a hundred of the greatest ints, and of the least ones. */
    private static void greatSums() {
        for (int value : new int[] {Integer.MAX_VALUE, Integer.MIN_VALUE, -1}) {
            BurstTrie x = new BurstTrie();
            for (int i = 0; i < 100; i++) {
                x.put((i / 10 + 1L) << 55 | (i % 10 + 1L) << 50, value);
            }
            Check.due(100L * value, () -> x.sum(0, LAST), "a hundred times " + value);
        }
    }

    /** "these methods count nothing and move nothing", for a key that is there and for one that is not. */
    private static void nothingCounted() {
        for (int tree : new int[] {1, 20}) {
            BurstTrie x = new BurstTrie();
            x.setLimits(tree, 3, 2);
            Check.setRule(x, "accesses > 7 or comparisons > 25");
            Check.putAll(x, "b", "d", "a", "c", "ab");
            x.get(w("b"));
            Object before = View.of(x);
            for (long key : new long[] {w("c"), w("e"), 0, LAST}) {
                x.size();
                x.frequency(key);
                x.lower(key);
                x.ceiling(key);
                x.keyAt(4);
                x.prefixCount(key);
                x.longestPrefix(key);
                x.mostFrequent(4);
                x.sum(0, key);
            }
            Check.due(before, () -> View.of(x), "all answers are as before, T is " + tree);
        }
    }
}
