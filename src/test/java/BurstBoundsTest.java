import java.util.NoSuchElementException;
import java.util.function.Consumer;

/** Sections 3 and 4: when a container bursts, and what becomes of its records. */
public final class BurstBoundsTest {
    private static final String LETTERS = "abcdefghijklmnopqrstuvwxyz";

    public static void main(String[] args) {
        ruleAtFirst();
        twoRecords();
        eachAccessThatBursts();
        accessesThatDoNot();
        onlyTheContainerOfTheAccess();
        names();
        depths();
        orderOfList();
        orderOfTree();
        ownRecord();
        growthOfChildren();
        countersOfChildren();
        notAtOnce();
        deepest();
        afterRecordHundred();
        Check.finish();
    }

    private static long w(String letters) {
        return Check.word(letters);
    }

    private static BurstTrie map(String rule, String... words) {
        BurstTrie x = new BurstTrie();
        Check.setRule(x, "0");
        x.setLimits(20, 0, 0);
        Check.putAll(x, words);
        Check.setRule(x, rule);
        return x;
    }

    private static void bursts(int want, BurstTrie x, Consumer<BurstTrie> action, String name) {
        long before = x.counter(5);
        Check.answer(() -> {
            action.accept(x);
            return null;
        });
        Check.due(want, () -> x.counter(5) - before, "bursts by " + name);
    }

    /** "at first it is size > 8": 8 records do not burst, 9 do. */
    private static void ruleAtFirst() {
        BurstTrie x = new BurstTrie();
        for (int i = 0; i < 8; i++) {
            x.put(w(LETTERS.substring(i, i + 1)), i);
        }
        Check.due(0, () -> x.container(0, 4), "the rule does not hold for 8 records");
        bursts(0, x, y -> y.get(w("a")), "8 records");
        Check.due(3, () -> x.kind(0), "they are a tree");
        bursts(1, x, y -> y.put(w("i"), 9), "record 9");
        Check.due(1, () -> x.kind(0), "an access node");
    }

    /** "if it has at least 2 records and the burst rule holds for it". */
    private static void twoRecords() {
        BurstTrie x = new BurstTrie();
        Check.setRule(x, "1");
        bursts(0, x, y -> y.put(w("a"), 1), "put of the first record");
        bursts(0, x, y -> y.put(w("a"), 2), "put of the only record");
        bursts(0, x, y -> y.add(w("a"), 2), "add to the only record");
        bursts(0, x, y -> y.get(w("a")), "get of the only record");
        Check.due(1, () -> x.container(0, 4), "the rule holds for one record");
        bursts(1, x, y -> y.put(w("b"), 2), "put of the second record");
        bursts(0, x, y -> y.add(w("c"), 2), "a new child with one record");
        bursts(0, x, y -> y.get(w("c")), "get of its record");
        bursts(1, x, y -> y.add(w("cc"), 2), "the second record of the child");
        BurstTrie y = map("0", "a", "b");
        Check.due(0, () -> y.container(0, 4), "the rule does not hold");
        bursts(0, y, z -> z.put(w("c"), 1), "three records, if the rule does not hold");
    }

    /** "After put, get and add", of a record that is there or of a new one. */
    private static void eachAccessThatBursts() {
        bursts(1, map("1", "a", "b"), x -> x.put(w("a"), 1), "put of a present key");
        bursts(1, map("1", "a", "b"), x -> x.put(w("c"), 1), "put of a new key");
        bursts(1, map("1", "a", "b"), x -> x.add(w("a"), 1), "add to a present key");
        bursts(1, map("1", "a", "b"), x -> x.add(w("c"), 1), "add to a new key");
        bursts(1, map("1", "a", "b"), x -> x.get(w("a")), "get");
    }

    /** "but not if get throws an exception"; nor by remove, nor by what is refused, nor by other calls. */
    private static void accessesThatDoNot() {
        bursts(0, map("1", "a", "b"), x -> x.get(w("c")), "get that throws");
        bursts(0, map("misses > 2", "a", "b"), x -> x.get(w("c")), "get that makes the rule hold and throws");
        bursts(0, map("1", "a", "b", "c"), x -> x.remove(w("c")), "remove");
        bursts(0, map("1", "a", "b"), x -> x.remove(w("c")), "remove that throws");
        bursts(0, map("1", "a", "b"), x -> x.add(w("a"), Integer.MAX_VALUE), "add that throws");
        bursts(0, map("1", "a", "b"), x -> x.put(1, 1), "put of no key");
        bursts(0, map("1", "a", "b", "c"), x -> {
            x.open(0, 0);
            x.next(0);
            x.removeAt(0);
        }, "removeAt");
        bursts(0, map("1", "a", "b"), x -> {
            x.container(0, 4);
            x.frequency(w("a"));
            x.cost(w("a"));
            x.ceiling(w("a"));
            x.setLimits(1, 0, 0);
            x.save(0);
            x.restore(0);
            Check.setRule(x, "1");
        }, "other calls");
    }

    /** "the container to which the access came": others wait, and an access node's own record has none. */
    private static void onlyTheContainerOfTheAccess() {
        BurstTrie x = map("1", "aa", "ab", "ba", "bb", "");
        bursts(1, x, y -> y.get(w("aa")), "the root");
        bursts(0, x, y -> y.get(0), "an own record");
        bursts(1, x, y -> y.get(w("aa")), "the container of a");
        Check.due(2, () -> x.kind(w("b")), "that of b waits");
        Check.due(1, () -> x.container(w("b"), 4), "though the rule holds");
        bursts(1, x, y -> y.get(w("bb")), "that of b");
    }

    /** The last access without the rule, and the first one with it, for each name. */
    private static void names() {
        BurstTrie size = map("size > 2", "a");
        bursts(0, size, x -> x.put(w("b"), 1), "size 2");
        bursts(1, size, x -> x.put(w("c"), 1), "size 3");
        BurstTrie accesses = map("accesses > 3", "a", "b");
        bursts(0, accesses, x -> x.get(w("a")), "3 accesses");
        bursts(1, accesses, x -> x.get(w("a")), "4 accesses");
        BurstTrie hits = map("hits > 1", "a", "b");
        bursts(0, hits, x -> x.get(w("a")), "1 hit");
        bursts(0, hits, x -> x.put(w("c"), 1), "1 hit and a miss");
        bursts(1, hits, x -> x.get(w("a")), "2 hits");
        BurstTrie misses = map("misses > 3", "a", "b");
        bursts(0, misses, x -> x.get(w("c")), "3 misses");
        bursts(0, misses, x -> x.get(w("a")), "3 misses and a hit");
        bursts(1, misses, x -> x.put(w("c"), 1), "4 misses");
        BurstTrie comparisons = map("comparisons > 3", "a", "b");
        bursts(0, comparisons, x -> x.get(w("a")), "1 + 2 comparisons");
        bursts(1, comparisons, x -> x.get(w("a")), "4 comparisons");
    }

    /** "depth is its depth": 0 of the root, 1 and 2 below it. */
    private static void depths() {
        BurstTrie x = map("depth = 0", "aaa", "aab");
        bursts(1, x, y -> y.get(w("aaa")), "depth 0");
        bursts(0, x, y -> y.get(w("aaa")), "depth 1, the rule is for 0");
        Check.setRule(x, "depth > 1");
        bursts(0, x, y -> y.get(w("aaa")), "depth 1, the rule is for 2");
        Check.setRule(x, "depth = 1");
        bursts(1, x, y -> y.get(w("aaa")), "depth 1");
        Check.setRule(x, "depth = 2");
        bursts(1, x, y -> y.get(w("aaa")), "depth 2");
    }

    /** "Its records are taken in the order of the list", each "added at the end" of its new list. */
    private static void orderOfList() {
        BurstTrie x = map("1", "ab", "ba", "aa", "bb", "ac");
        x.get(w("ab"));
        Check.due("ab,ac,aa", () -> Check.row(x, "a"), "the list of a");
        Check.due("bb,ba", () -> Check.row(x, "b"), "the list of b");
        Check.due(2, () -> x.counter(1), "two lists");
        Check.due(0, () -> x.kind(w("c")), "no list without records");
    }

    /** "or of a tree in the order of the keys". */
    private static void orderOfTree() {
        BurstTrie x = new BurstTrie();
        Check.setRule(x, "0");
        x.setLimits(4, 0, 0);
        Check.putAll(x, "ab", "ba", "ad", "bb", "ac", "aa");
        Check.due(3, () -> x.kind(0), "a tree");
        Check.setRule(x, "1");
        x.get(w("bb"));
        Check.due("aa,ab,ac,ad", () -> Check.row(x, "a"), "the list of a");
        Check.due("ba,bb", () -> Check.row(x, "b"), "the list of b");
        Check.due(1, () -> x.counter(6), "lists of T records stay lists");
    }

    /** "The record whose key is the prefix becomes the node's own one", at the root and below. */
    private static void ownRecord() {
        BurstTrie x = map("1", "a", "", "ab", "aa");
        x.get(w("ab"));
        Check.due(0, () -> x.cost(0), "the own record of the root");
        Check.due("ab,aa,a", () -> Check.row(x, "a"), "the prefix of the child stays in its list");
        x.get(w("aa"));
        Check.due(0, () -> x.cost(w("a")), "the own record of the child");
        Check.due("ab", () -> Check.row(x, "ab"), "the list of ab");
        Check.due(2, () -> x.counter(1), "two lists");
        BurstTrie y = map("1", "a", "");
        y.get(0);
        Check.due(0, () -> y.cost(0), "the own record that the access found");
        Check.due(1, () -> y.frequency(0), "its frequency stays");
        Check.due(1, () -> y.counter(1), "one list");
    }

    /** "each of these lists that has more than T records becomes a tree". */
    private static void growthOfChildren() {
        for (int tree : new int[] {1, 2, 5, 19}) {
            BurstTrie x = map("0");
            for (int i = 0; i < tree; i++) {
                x.put(w("b" + LETTERS.charAt(i)), i);
            }
            x.put(w("c"), 0);
            x.setLimits(tree, 0, 0);
            Check.setRule(x, "1");
            x.get(w("c"));
            Check.due(2, () -> x.kind(w("b")), "T records, T is " + tree);
            Check.due(0, () -> x.counter(6), "no list became a tree");
        }
        BurstTrie x = map("1", "ac", "ab", "aa", "ba", "bb", "c");
        x.setLimits(2, 0, 0);
        x.get(w("c"));
        Check.due(3, () -> x.kind(w("a")), "T + 1 records");
        Check.due("aa,ab,ac", () -> Check.row(x, "a"), "in the order of the list");
        Check.due(3, () -> x.container(w("a"), 5), "a chain");
        Check.due(2, () -> x.kind(w("b")), "T records beside them");
        Check.due(1, () -> x.counter(6), "one list became a tree");
        // Of a tree, the keys come in their order: the least one is the top.
        BurstTrie y = map("0", "ac", "ab", "aa", "c");
        y.setLimits(2, 0, 0);
        Check.putAll(y, "d");
        Check.setRule(y, "1");
        y.get(w("ac"));
        Check.due("aa,ab,ac", () -> Check.row(y, "a"), "in the order of the keys");
        Check.due(2, () -> y.counter(6), "the root and its child became trees");
    }

    /** "All counters of the new containers are 0", but the total and the frequencies stay. */
    private static void countersOfChildren() {
        BurstTrie x = map("hits > 1", "aa", "ab", "b");
        x.get(w("ab"));
        x.get(w("b"));
        for (String prefix : new String[] {"a", "b"}) {
            for (int what = 1; what <= 3; what++) {
                int number = what;
                Check.due(0, () -> x.container(w(prefix), number), "counter " + what + " of " + prefix);
            }
        }
        Check.due(0 + 1 + 2 + 2 + 2, () -> x.counter(4), "the total stays");
        Check.due(1, () -> x.frequency(w("ab")), "a frequency stays");
        Check.due(1, () -> x.frequency(w("b")), "that of the access, too");
    }

    /** "The new containers do not burst at once, even if the rule holds for them." */
    private static void notAtOnce() {
        BurstTrie x = map("1", "aaa", "aab");
        bursts(1, x, y -> y.get(w("aab")), "the first access");
        Check.due(2, () -> x.kind(w("a")), "a list");
        Check.due(1, () -> x.container(w("a"), 4), "though the rule holds");
        bursts(1, x, y -> y.get(w("aab")), "the second access");
        Check.due(2, () -> x.kind(w("aa")), "a list");
        bursts(1, x, y -> y.get(w("aab")), "the third access");
        Check.due(2, () -> x.kind(w("aaa")), "a list of one");
        Check.due(2, () -> x.kind(w("aab")), "a list of one");
        bursts(0, x, y -> y.get(w("aab")), "the fourth access");
    }

    /** Words of 12 letters: the deepest access node has depth 11, the deepest container depth 12. */
    private static void deepest() {
        String front = "zzzzzzzzzzz";
        BurstTrie x = map("1", front + "y", front + "z", front);
        for (int depth = 0; depth <= 11; depth++) {
            bursts(1, x, y -> y.get(w(front + "z")), "access at depth " + depth);
        }
        bursts(0, x, y -> y.get(w(front + "z")), "access at depth 12");
        Check.due(12, () -> x.counter(0), "access nodes");
        Check.due(2, () -> x.counter(1), "lists");
        Check.due(12, () -> x.counter(3), "greatest depth");
        Check.due(1, () -> x.kind(w(front)), "the deepest access node");
        Check.due(0, () -> x.cost(w(front)), "its own record");
        Check.due(2, () -> x.kind(w(front + "z")), "the deepest container");
        Check.due(1, () -> x.cost(w(front + "z")), "its record");
        Check.due(1, () -> x.container(w(front + "z"), 0), "one record");
        Check.dueThrow(NoSuchElementException.class, () -> x.get(w(front + "a")), "no child there");
    }

    /** A put that is refused by 100 records bursts nothing, one that finds its key does. */
    private static void afterRecordHundred() {
        BurstTrie x = new BurstTrie();
        Check.setRule(x, "0");
        for (int i = 0; i < 100; i++) {
            x.put((i / 10 + 1L) << 55 | (i % 10 + 1L) << 50, i);
        }
        Check.setRule(x, "1");
        bursts(0, x, y -> y.put(w("zz"), 1), "put that is refused");
        bursts(0, x, y -> y.add(w("zz"), 1), "add that is refused");
        bursts(1, x, y -> y.put(w("aa"), 1), "put of a present key");
        Check.due(10, () -> x.counter(2), "ten trees of ten");
        Check.due(10, () -> x.container(w("j"), 5), "in the order of the keys: a chain");
    }
}
