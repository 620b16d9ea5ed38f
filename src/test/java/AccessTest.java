import java.util.NoSuchElementException;

/** Promises 6 to 9: put, get, add and remove; what they count, move, burst and collapse. */
public final class AccessTest {
    private static final long[] NO_KEYS = {-1, 1, 1L << 60, Long.MIN_VALUE, Long.MAX_VALUE, 27L << 55,
        31L << 50 | 1L << 55, 1L << 50, 1L << 55 | 1L << 45, 26, (1L << 55) + 27};

    public static void main(String[] args) {
        put();
        get();
        add();
        remove();
        noKeys();
        hundredRecords();
        refusedCallsCountNothing();
        moveToFront();
        treeShape();
        treeRemoval();
        missingChild();
        burstOrder();
        burstOfTree();
        burstNeedsTwo();
        burstOnGet();
        missesBurstNothing();
        deepBursts();
        collapse();
        collapseToTree();
        collapseOfManyNodes();
        emptyRoot();
        Check.finish();
    }

    private static long w(String letters) {
        return Check.word(letters);
    }

    private static void put() {
        BurstTrie x = new BurstTrie();
        Check.due(true, () -> x.put(w("abc"), Integer.MIN_VALUE), "put of a new key");
        Check.due(Integer.MIN_VALUE, () -> x.get(w("abc")), "its value");
        Check.due(false, () -> x.put(w("abc"), Integer.MAX_VALUE), "put of a present key");
        Check.due(Integer.MAX_VALUE, () -> x.get(w("abc")), "its new value");
        Check.due(true, () -> x.put(0, 7), "put of the empty word");
        Check.due(true, () -> x.put(w("zzzzzzzzzzzz"), 8), "put of the last word");
        Check.due(7, () -> x.get(0), "get of the empty word");
        Check.due(8, () -> x.get(w("zzzzzzzzzzzz")), "get of the last word");
        Check.due(3, () -> x.size(), "size");
    }

    private static void get() {
        BurstTrie x = new BurstTrie();
        Check.dueThrow(NoSuchElementException.class, () -> x.get(w("a")), "get in an empty map");
        Check.due(1, () -> x.container(0, 1), "its access counts");
        Check.putAll(x, "a", "ab");
        Check.dueThrow(NoSuchElementException.class, () -> x.get(w("abc")), "get of a missing key");
        Check.due(4, () -> x.container(0, 1), "accesses");
        Check.due(0, () -> x.container(0, 2), "hits");
        Check.due(3, () -> x.container(0, 3), "comparisons");
        Check.due(3, () -> x.counter(4), "total");
        Check.due("ab,a", () -> Check.row(x, ""), "a miss moves nothing");
        Check.due(1, () -> x.get(w("a")), "get of a present key");
        Check.due(1, () -> x.frequency(w("a")), "its frequency");
        Check.due(1, () -> x.container(0, 2), "hits");
    }

    private static void add() {
        BurstTrie x = new BurstTrie();
        Check.due(-3, () -> x.add(w("q"), -3), "add to a missing key");
        Check.due(0, () -> x.frequency(w("q")), "frequency of a new record");
        Check.due(2, () -> x.add(w("q"), 5), "add to a present key");
        Check.due(1, () -> x.frequency(w("q")), "frequency after add");
        Check.due(Integer.MAX_VALUE, () -> x.add(w("q"), Integer.MAX_VALUE - 2), "add up to the greatest int");
        Check.dueThrow(ArithmeticException.class, () -> x.add(w("q"), 1), "add beyond it");
        Check.due(3, () -> x.container(0, 1), "a refused add is no access");
        Check.due(2, () -> x.frequency(w("q")), "a refused add leaves the frequency");
        Check.due(Integer.MAX_VALUE, () -> x.get(w("q")), "and the value");
        Check.due(Integer.MIN_VALUE, () -> x.add(w("r"), Integer.MIN_VALUE), "the least int");
        Check.dueThrow(ArithmeticException.class, () -> x.add(w("r"), -1), "add below it");
        Check.due(-1, () -> x.add(w("r"), Integer.MAX_VALUE), "add back");
    }

    private static void remove() {
        BurstTrie x = new BurstTrie();
        Check.putAll(x, "a", "bb", "ccc");
        Check.due(2, () -> x.remove(w("bb")), "remove");
        Check.due("ccc,a", () -> Check.row(x, ""), "the order of the others");
        Check.due(4, () -> x.container(0, 1), "accesses");
        Check.due(1, () -> x.container(0, 2), "hits");
        Check.due(0 + 1 + 2 + 2, () -> x.container(0, 3), "comparisons");
        Check.dueThrow(NoSuchElementException.class, () -> x.remove(w("bb")), "remove again");
        Check.due(5, () -> x.container(0, 1), "its access counts");
        Check.due(7, () -> x.counter(4), "its comparisons count");
        Check.due(-1, () -> x.frequency(w("bb")), "no record");
        Check.due(2, () -> x.size(), "size");
    }

    private static void noKeys() {
        BurstTrie x = new BurstTrie();
        Check.putAll(x, "a");
        for (long key : NO_KEYS) {
            Check.dueThrow(IllegalArgumentException.class, () -> x.put(key, 1), "put of no key " + key);
            Check.dueThrow(IllegalArgumentException.class, () -> x.get(key), "get of no key " + key);
            Check.dueThrow(IllegalArgumentException.class, () -> x.add(key, 1), "add of no key " + key);
            Check.dueThrow(IllegalArgumentException.class, () -> x.remove(key), "remove of no key " + key);
        }
        Check.due(1, () -> x.container(0, 1), "no access counted");
        Check.due(1, () -> x.size(), "size");
    }

    private static BurstTrie full() {
        BurstTrie x = new BurstTrie();
        for (int i = 0; i < 100; i++) {
            x.put((i / 10 + 1L) << 55 | (i % 10 + 1L) << 50, i);
        }
        return x;
    }

    private static void hundredRecords() {
        BurstTrie x = full();
        Check.due(100, () -> x.size(), "size");
        long total = x.counter(4);
        Check.dueThrow(IllegalStateException.class, () -> x.put(w("zz"), 1), "put of record 101");
        Check.dueThrow(IllegalStateException.class, () -> x.add(w("aaa"), 1), "add of record 101");
        Check.dueThrow(IllegalArgumentException.class, () -> x.put(-1, 1), "no key comes first");
        Check.due(total, () -> x.counter(4), "nothing counted");
        Check.due(false, () -> x.put(w("aa"), 5), "put of a present key");
        Check.due(6, () -> x.add(w("aa"), 1), "add to a present key");
        Check.due(6, () -> x.remove(w("aa")), "remove");
        Check.due(true, () -> x.put(w("zz"), 1), "put of a new key after that");
        Check.due(100, () -> x.size(), "size again");
        for (int i = 0; i < 100; i++) {
            x.remove(x.keyAt(0));
        }
        Check.due(0, () -> x.size(), "size of the emptied map");
        Check.due(2, () -> x.kind(0), "its root");
    }

    private static void refusedCallsCountNothing() {
        BurstTrie x = full();
        BurstTrie y = full();
        Check.dueThrow(IllegalStateException.class, () -> x.put(w("ak"), 1), "put in a container");
        Check.dueThrow(IllegalStateException.class, () -> x.put(w("y"), 1), "put without a child");
        for (char letter = 'a'; letter <= 'j'; letter++) {
            long prefix = w("" + letter);
            for (int what = 0; what <= 5; what++) {
                int number = what;
                Check.due(y.kind(prefix) < 2 ? NoSuchElementException.class : y.container(prefix, number),
                        () -> x.container(prefix, number), "container " + letter + " " + number);
            }
        }
    }

    private static void moveToFront() {
        BurstTrie x = new BurstTrie();
        Check.putAll(x, "a", "b", "c", "d");
        Check.due("d,c,b,a", () -> Check.row(x, ""), "new records in front");
        x.get(w("b"));
        Check.due("b,d,c,a", () -> Check.row(x, ""), "get moves to the front");
        x.put(w("c"), 1);
        Check.due("c,b,d,a", () -> Check.row(x, ""), "put moves to the front");
        x.add(w("a"), 1);
        Check.due("a,c,b,d", () -> Check.row(x, ""), "add moves to the front");
        x.get(w("a"));
        Check.due("a,c,b,d", () -> Check.row(x, ""), "the front one stays");
        Check.due(0 + 1 + 2 + 3 + 3 + 3 + 4 + 1, () -> x.container(0, 3), "comparisons");
        x.frequency(w("d"));
        x.cost(w("d"));
        x.lower(w("d"));
        Check.due("a,c,b,d", () -> Check.row(x, ""), "other methods move nothing");
    }

    private static void treeShape() {
        BurstTrie x = new BurstTrie();
        x.setLimits(3, 0, 0);
        Check.putAll(x, "b", "d", "c");
        Check.putAll(x, "f");
        Check.due(3, () -> x.kind(0), "a tree");
        Check.due("f,c,b,d", () -> Check.row(x, ""), "inserted in the order of the list");
        Check.due(0 + 1 + 2 + 3, () -> x.container(0, 3), "its counters stay");
        Check.due(4, () -> x.container(0, 1), "accesses stay");
        Check.putAll(x, "e", "a", "g");
        Check.due("f,c,b,a,d,e,g", () -> Check.row(x, ""), "new leaves");
        Check.due(6 + 3 + 3 + 1, () -> x.container(0, 3), "comparisons of failed searches");
        x.get(w("a"));
        Check.due("f,c,b,a,d,e,g", () -> Check.row(x, ""), "a tree moves nothing");
        Check.due(17, () -> x.container(0, 3), "comparisons of a hit");
        Check.due(4, () -> x.container(0, 5), "height");
        Check.dueThrow(NoSuchElementException.class, () -> x.get(w("cc")), "a miss");
        Check.due(17 + 3, () -> x.container(0, 3), "comparisons of a miss");
    }

    private static void treeRemoval() {
        BurstTrie x = new BurstTrie();
        Check.setRule(x, "0");
        x.setLimits(1, 0, 0);
        // The list b, m turns into a tree with b at its top.
        Check.putAll(x, "m", "b", "a", "x", "p", "z", "o", "q", "n");
        Check.due("b,a,m,x,p,o,n,q,z", () -> Check.row(x, ""), "the tree");
        Check.due(1, () -> x.remove(w("b")), "remove the top with two subtrees");
        Check.due("m,a,x,p,o,n,q,z", () -> Check.row(x, ""), "the lowest of the right one");
        Check.due(1, () -> x.remove(w("m")), "remove a top whose heir is deep");
        Check.due("n,a,x,p,o,q,z", () -> Check.row(x, ""), "a leaf goes up");
        Check.due(1, () -> x.remove(w("n")), "remove a top whose heir has a subtree no more");
        Check.due("o,a,x,p,q,z", () -> Check.row(x, ""), "the next one goes up");
        Check.due(1, () -> x.remove(w("o")), "remove a top whose heir has a right subtree");
        Check.due("p,a,x,q,z", () -> Check.row(x, ""), "its right subtree takes its place");
        Check.due(1, () -> x.remove(w("z")), "remove a leaf");
        Check.due("p,a,x,q", () -> Check.row(x, ""), "without a leaf");
        Check.due(1, () -> x.remove(w("x")), "remove a record with a left subtree");
        Check.due("p,a,q", () -> Check.row(x, ""), "the subtree goes up");
        Check.due(1, () -> x.remove(w("a")), "remove a left leaf");
        Check.due(1, () -> x.remove(w("p")), "remove a top with a right subtree");
        Check.due("q", () -> Check.row(x, ""), "one record");
        Check.due(3, () -> x.kind(0), "still a tree, L is 0");
    }

    private static BurstTrie burst(String... words) {
        BurstTrie x = new BurstTrie();
        Check.setRule(x, "size = " + words.length);
        Check.putAll(x, words);
        return x;
    }

    private static void missingChild() {
        BurstTrie x = burst("a", "b");
        long total = x.counter(4);
        Check.dueThrow(NoSuchElementException.class, () -> x.get(w("c")), "no child");
        Check.dueThrow(NoSuchElementException.class, () -> x.remove(w("c")), "nothing to remove");
        Check.dueThrow(NoSuchElementException.class, () -> x.get(0), "no own record");
        Check.due(total, () -> x.counter(4), "no comparison");
        Check.due(true, () -> x.put(w("cd"), 1), "put makes the child");
        Check.due(2, () -> x.kind(w("c")), "a list");
        Check.due(1, () -> x.container(w("c"), 1), "its accesses");
        Check.due(0, () -> x.container(w("c"), 2), "its hits");
        Check.due(0, () -> x.container(w("c"), 3), "its comparisons");
        Check.due(5, () -> x.add(w("dd"), 5), "add makes a child");
        Check.due(1, () -> x.container(w("d"), 1), "its accesses");
        Check.due(true, () -> x.put(0, 3), "an own record");
        Check.due(4, () -> x.add(0, 1), "add to it");
        Check.due(4, () -> x.get(0), "get it");
        Check.due(2, () -> x.frequency(0), "its frequency");
        Check.due(total, () -> x.counter(4), "no comparison for it");
        Check.due(4, () -> x.remove(0), "remove it");
        Check.due(1, () -> x.kind(0), "the node stays");
    }

    private static void burstOrder() {
        BurstTrie x = burst("ab", "aa", "b", "ac", "");
        Check.due(1, () -> x.kind(0), "an access node");
        Check.due("ac,aa,ab", () -> Check.row(x, "a"), "the order of the list stays");
        Check.due("b", () -> Check.row(x, "b"), "another child");
        Check.due(0, () -> x.cost(0), "the own record");
        Check.due(0, () -> x.container(w("a"), 1), "no accesses");
        Check.due(0, () -> x.container(w("a"), 3), "no comparisons");
        Check.due(1, () -> x.counter(5), "bursts");
        Check.due(0 + 1 + 2 + 3 + 4, () -> x.counter(4), "the total stays");
    }

    private static void burstOfTree() {
        BurstTrie x = new BurstTrie();
        x.setLimits(3, 0, 0);
        Check.setRule(x, "size > 8");
        Check.putAll(x, "ad", "b", "ac", "e", "ab", "aa", "be", "bd", "af");
        Check.due(1, () -> x.kind(0), "burst");
        Check.due(3, () -> x.kind(w("a")), "more than T: a tree");
        Check.due("aa,ab,ac,ad,af", () -> Check.row(x, "a"), "in the order of the keys");
        Check.due("b,bd,be", () -> Check.row(x, "b"), "a list in the order of the keys");
        Check.due(2, () -> x.counter(6), "the root and the child became trees");
        Check.due(5, () -> x.container(w("a"), 5), "its height");
    }

    private static void burstNeedsTwo() {
        BurstTrie x = new BurstTrie();
        Check.setRule(x, "1");
        Check.putAll(x, "abc");
        x.get(w("abc"));
        Check.due(2, () -> x.kind(0), "one record does not burst");
        Check.due(1, () -> x.container(0, 4), "though the rule holds");
        Check.putAll(x, "abd");
        Check.due(1, () -> x.kind(0), "two do");
        Check.due("abd,abc", () -> Check.row(x, "a"), "the new container does not burst at once");
        Check.due(1, () -> x.container(w("a"), 4), "though the rule holds");
        Check.due(1, () -> x.counter(5), "one burst");
    }

    private static void burstOnGet() {
        BurstTrie x = new BurstTrie();
        Check.setRule(x, "hits > 1");
        Check.putAll(x, "a", "b");
        x.get(w("a"));
        Check.due(2, () -> x.kind(0), "one hit");
        x.add(w("a"), 1);
        Check.due(1, () -> x.kind(0), "two hits");
        Check.due(2, () -> x.frequency(w("a")), "frequencies stay");
        BurstTrie y = new BurstTrie();
        Check.setRule(y, "size = 1");
        Check.putAll(y, "a", "b", "c");
        Check.setRule(y, "size = 2");
        y.remove(w("a"));
        Check.due(2, () -> y.kind(0), "remove does not burst");
    }

    private static void missesBurstNothing() {
        BurstTrie x = new BurstTrie();
        Check.putAll(x, "a", "b");
        Check.setRule(x, "misses > 2");
        Check.dueThrow(NoSuchElementException.class, () -> x.get(w("c")), "a miss");
        Check.due(1, () -> x.container(0, 4), "the rule holds");
        Check.due(2, () -> x.kind(0), "a get that throws does not burst");
        x.get(w("a"));
        Check.due(1, () -> x.kind(0), "the next one does");
    }

    private static void deepBursts() {
        BurstTrie x = new BurstTrie();
        Check.setRule(x, "1");
        x.setLimits(6, 3, 0);
        Check.putAll(x, "aaaaaaaaaaaa", "aaaaaaaaaaab");
        for (int i = 0; i < 11; i++) {
            x.get(w("aaaaaaaaaaaa"));
        }
        Check.due(12, () -> x.counter(0), "access nodes");
        Check.due(12, () -> x.counter(3), "greatest depth");
        Check.due(12, () -> x.counter(5), "bursts");
        Check.due(2, () -> x.kind(w("aaaaaaaaaaaa")), "a container for a whole word");
        Check.due(1, () -> x.container(w("aaaaaaaaaaaa"), 0), "its size");
        x.get(w("aaaaaaaaaaaa"));
        Check.due(12, () -> x.counter(5), "no more bursts");
        Check.putAll(x, "aaaaaaaaaaac", "aaaaaaaaaaa", "a", "");
        Check.due(6, () -> x.prefixCount(0), "all");
        for (String word : new String[] {"aaaaaaaaaaaa", "aaaaaaaaaaab", "aaaaaaaaaaac"}) {
            x.remove(w(word));
        }
        Check.due(0, () -> x.counter(8), "the own record keeps the nodes");
        x.remove(w("aaaaaaaaaaa"));
        Check.due(10, () -> x.counter(8), "empty nodes are removed");
        Check.due(2, () -> x.counter(0), "two are left");
    }

    private static void collapse() {
        BurstTrie x = burst("ab", "b", "aa");
        x.get(w("b"));
        Check.due(1, () -> x.kind(0), "burst");
        Check.due(1, () -> x.remove(w("b")), "remove leaves two");
        Check.due(2, () -> x.kind(0), "collapsed");
        Check.due("aa,ab", () -> Check.row(x, ""), "in the order of the keys");
        Check.due(0, () -> x.container(0, 1), "new counters");
        Check.due(1, () -> x.counter(8), "one collapse");
        BurstTrie y = burst("ab", "b", "aa", "");
        y.remove(w("b"));
        Check.due(1, () -> y.kind(0), "three with the own one");
        Check.due(0, () -> y.kind(w("b")), "the empty container is removed");
        y.remove(w("ab"));
        Check.due(",aa", () -> Check.row(y, ""), "the own one comes first");
        BurstTrie z = burst("ab", "b", "aa", "");
        z.remove(0);
        z.remove(w("b"));
        Check.due("aa,ab", () -> Check.row(z, ""), "remove of the own one");
    }

    private static void collapseToTree() {
        BurstTrie x = burst("a", "b", "c", "d", "e");
        x.setLimits(2, 0, 4);
        Check.due(1, () -> x.remove(w("c")), "remove leaves four");
        Check.due(3, () -> x.kind(0), "more than T: a tree");
        Check.due("a,b,d,e", () -> Check.row(x, ""), "inserted in the order of the keys");
        Check.due(4, () -> x.container(0, 5), "its height");
        Check.due(1, () -> x.counter(6), "a list became a tree");
        Check.due(1, () -> x.counter(8), "a collapse");
    }

    private static void collapseOfManyNodes() {
        BurstTrie x = new BurstTrie();
        Check.setRule(x, "1");
        x.setLimits(6, 3, 0);
        Check.putAll(x, "aa", "ab", "ba", "bb");
        x.get(w("aa"));
        x.get(w("ba"));
        Check.due(3, () -> x.counter(0), "three access nodes");
        x.setLimits(6, 3, 3);
        x.remove(w("ab"));
        Check.due(2, () -> x.kind(0), "all collapsed");
        Check.due(2, () -> x.counter(8), "the node that vanishes below does not count");
        Check.due("aa,ba,bb", () -> Check.row(x, ""), "the records");
    }

    private static void emptyRoot() {
        BurstTrie x = new BurstTrie();
        x.setLimits(1, 0, 0);
        Check.putAll(x, "a", "b");
        x.remove(w("a"));
        Check.due(3, () -> x.kind(0), "a tree of one");
        Check.due(3, () -> x.container(0, 1), "its accesses");
        x.remove(w("b"));
        Check.due(2, () -> x.kind(0), "an empty list");
        Check.due(0, () -> x.container(0, 1), "new counters");
        Check.due(0, () -> x.container(0, 3), "new comparisons");
        Check.due(0, () -> x.counter(7), "no tree became a list by L");
        Check.due(0, () -> x.counter(8), "no access node");
        BurstTrie y = burst("a", "b");
        y.setLimits(6, 3, 0);
        y.remove(w("a"));
        Check.due(1, () -> y.kind(0), "C is 0");
        y.remove(w("b"));
        Check.due(2, () -> y.kind(0), "the root becomes an empty list");
        Check.due(1, () -> y.counter(8), "it counts");
        Check.due(0, () -> y.container(0, 0), "without records");
    }
}
