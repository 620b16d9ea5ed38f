/** Promises 10 to 18: the map in the order of its keys. */
public final class SortedMapTest {
    private static final long[] NO_KEYS = {-1, 1, 1L << 60, Long.MIN_VALUE, Long.MAX_VALUE, 27L << 55,
        1L << 50, 1L << 55 | 1L << 45};

    public static void main(String[] args) {
        for (int rule = 0; rule <= 1; rule++) {
            size(rule);
            frequency(rule);
            neighbours(rule);
            keyAt(rule);
            prefixCount(rule);
            longestPrefix(rule);
            mostFrequent(rule);
            sum(rule);
        }
        noKeys();
        nothingCounted();
        Check.finish();
    }

    private static long w(String letters) {
        return Check.word(letters);
    }

    /** The same map as one container, and as many nodes. */
    private static BurstTrie map(int rule) {
        BurstTrie x = new BurstTrie();
        Check.setRule(x, "" + rule);
        Check.putAll(x, "m", "ab", "", "abc", "z", "abd", "zzzzzzzzzzzz", "b", "abcdefghijkl", "a");
        return x;
    }

    private static void size(int rule) {
        BurstTrie x = map(rule);
        Check.due(10, () -> x.size(), "size");
        x.put(w("m"), 3);
        Check.due(10, () -> x.size(), "size after put of a present key");
        x.remove(w("m"));
        Check.due(9, () -> x.size(), "size after remove");
    }

    private static void frequency(int rule) {
        BurstTrie x = map(rule);
        Check.due(0, () -> x.frequency(w("abc")), "frequency of a new record");
        x.get(w("abc"));
        x.put(w("abc"), 1);
        x.add(w("abc"), 1);
        Check.due(3, () -> x.frequency(w("abc")), "frequency after three accesses");
        Check.due(-1, () -> x.frequency(w("abe")), "frequency of a missing key");
        x.remove(w("abc"));
        x.put(w("abc"), 1);
        Check.due(0, () -> x.frequency(w("abc")), "frequency of a record made anew");
    }

    private static void neighbours(int rule) {
        BurstTrie x = map(rule);
        Check.due(-1, () -> x.lower(0), "lower than the first");
        Check.due(0, () -> x.lower(w("a")), "lower a");
        Check.due(w("abc"), () -> x.lower(w("abcdefghijkl")), "lower abcdefghijkl");
        Check.due(w("abcdefghijkl"), () -> x.lower(w("abd")), "lower abd");
        Check.due(w("abd"), () -> x.lower(w("azzz")), "lower azzz");
        Check.due(w("z"), () -> x.lower(w("zzzzzzzzzzzz")), "lower than the last");
        Check.due(0, () -> x.ceiling(0), "ceiling of the empty word");
        Check.due(w("b"), () -> x.ceiling(w("b")), "ceiling b");
        Check.due(w("m"), () -> x.ceiling(w("ba")), "ceiling ba");
        Check.due(w("zzzzzzzzzzzz"), () -> x.ceiling(w("za")), "ceiling za");
        x.remove(w("zzzzzzzzzzzz"));
        Check.due(-1, () -> x.ceiling(w("za")), "ceiling of what is above all");
        Check.due(-1, () -> new BurstTrie().ceiling(0), "ceiling in an empty map");
        Check.due(-1, () -> new BurstTrie().lower(w("zz")), "lower in an empty map");
    }

    private static void keyAt(int rule) {
        BurstTrie x = map(rule);
        String[] order = {"", "a", "ab", "abc", "abcdefghijkl", "abd", "b", "m", "z", "zzzzzzzzzzzz"};
        for (int i = 0; i < order.length; i++) {
            int index = i;
            Check.due(w(order[i]), () -> x.keyAt(index), "keyAt " + i);
        }
        for (int index : new int[] {-1, 10, 100, Integer.MIN_VALUE, Integer.MAX_VALUE}) {
            Check.dueThrow(IndexOutOfBoundsException.class, () -> x.keyAt(index), "keyAt " + index);
        }
    }

    private static void prefixCount(int rule) {
        BurstTrie x = map(rule);
        Object[][] counts = {{"", 10}, {"a", 5}, {"ab", 4}, {"abc", 2}, {"abcd", 1}, {"abcdefghijkl", 1},
            {"abcdefghijkm", 0}, {"abe", 0}, {"b", 1}, {"ba", 0}, {"z", 2}, {"zzzzzzzzzzzz", 1}, {"y", 0}};
        for (Object[] count : counts) {
            Check.due(count[1], () -> x.prefixCount(w((String) count[0])), "prefixCount " + count[0]);
        }
    }

    private static void longestPrefix(int rule) {
        BurstTrie x = map(rule);
        String[][] words = {{"", ""}, {"abcdefghijkl", "abcdefghijkl"}, {"abcdefghijkm", "abc"},
            {"abx", "ab"}, {"ax", "a"}, {"xyz", ""}, {"zz", "z"}, {"abd", "abd"}, {"mm", "m"}};
        for (String[] word : words) {
            Check.due(w(word[1]), () -> x.longestPrefix(w(word[0])), "longestPrefix " + word[0]);
        }
        x.remove(0);
        Check.due(-1, () -> x.longestPrefix(w("xyz")), "no prefix in the map");
        Check.due(-1, () -> x.longestPrefix(0), "the empty word is gone");
    }

    private static void mostFrequent(int rule) {
        BurstTrie x = map(rule);
        for (String word : new String[] {"m", "z", "m", "b", "z", "m", "a"}) {
            x.get(w(word));
        }
        String[] order = {"m", "z", "a", "b", "", "ab", "abc", "abcdefghijkl", "abd", "zzzzzzzzzzzz"};
        for (int i = 0; i < order.length; i++) {
            int index = i;
            Check.due(w(order[i]), () -> x.mostFrequent(index), "mostFrequent " + i);
        }
        for (int index : new int[] {-1, 10, Integer.MIN_VALUE, Integer.MAX_VALUE}) {
            Check.dueThrow(IndexOutOfBoundsException.class, () -> x.mostFrequent(index), "index " + index);
        }
        Check.dueThrow(IndexOutOfBoundsException.class, () -> new BurstTrie().mostFrequent(0), "none");
    }

    private static void sum(int rule) {
        BurstTrie x = map(rule);
        Check.due(12 + 1 + 1, () -> x.sum(w("m"), w("zzzzzzzzzzzz")) + 12, "the end is not in the range");
        Check.due(1, () -> x.sum(w("m"), w("z")), "m alone");
        Check.due(2 + 3 + 12 + 3, () -> x.sum(w("ab"), w("b")), "from ab to before b");
        Check.due(0, () -> x.sum(w("b"), w("b")), "an empty range");
        Check.due(0, () -> x.sum(w("z"), w("a")), "from above to");
        x.put(w("b"), Integer.MAX_VALUE);
        x.put(w("m"), Integer.MAX_VALUE);
        Check.due(2L * Integer.MAX_VALUE, () -> x.sum(w("b"), w("z")), "more than an int");
        x.put(w("b"), Integer.MIN_VALUE);
        x.put(w("m"), Integer.MIN_VALUE);
        Check.due(2L * Integer.MIN_VALUE, () -> x.sum(w("b"), w("z")), "less than an int");
    }

    private static void noKeys() {
        BurstTrie x = map(1);
        for (long key : NO_KEYS) {
            Check.dueThrow(IllegalArgumentException.class, () -> x.frequency(key), "frequency " + key);
            Check.dueThrow(IllegalArgumentException.class, () -> x.lower(key), "lower " + key);
            Check.dueThrow(IllegalArgumentException.class, () -> x.ceiling(key), "ceiling " + key);
            Check.dueThrow(IllegalArgumentException.class, () -> x.prefixCount(key), "prefixCount " + key);
            Check.dueThrow(IllegalArgumentException.class, () -> x.longestPrefix(key), "longestPrefix " + key);
            Check.dueThrow(IllegalArgumentException.class, () -> x.sum(key, 0), "sum from " + key);
            Check.dueThrow(IllegalArgumentException.class, () -> x.sum(0, key), "sum to " + key);
        }
    }

    private static void nothingCounted() {
        BurstTrie x = map(0);
        String row = Check.row(x, "");
        int accesses = x.container(0, 1);
        long total = x.counter(4);
        x.frequency(w("m"));
        x.lower(w("m"));
        x.ceiling(w("m"));
        x.keyAt(3);
        x.prefixCount(w("a"));
        x.longestPrefix(w("abcd"));
        x.mostFrequent(2);
        x.sum(0, w("z"));
        Check.due(row, () -> Check.row(x, ""), "nothing moved");
        Check.due(accesses, () -> x.container(0, 1), "no access");
        Check.due(total, () -> x.counter(4), "no comparison");
        Check.due(0, () -> x.frequency(w("m")), "no frequency");
    }
}
