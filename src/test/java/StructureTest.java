import java.util.NoSuchElementException;

/** Promises 25 to 30: kind, container, recordAt, cost, meanCost and counter. */
public final class StructureTest {
    private static final long[] NO_KEYS = {-1, 1, 1L << 60, Long.MIN_VALUE, 27L << 55, 1L << 50};

    public static void main(String[] args) {
        kind();
        container();
        containerExceptions();
        recordAt();
        preorder();
        cost();
        meanCost();
        counters();
        totalIsNeverReset();
        nothingCounted();
        Check.finish();
    }

    private static long w(String letters) {
        return Check.word(letters);
    }

    /** An access node with an own record, the list a, and the tree b. */
    private static BurstTrie map() {
        BurstTrie x = new BurstTrie();
        Check.setRule(x, "size > 6");
        x.setLimits(3, 2, 1);
        Check.putAll(x, "ba", "a", "bb", "", "bc", "ab");
        Check.putAll(x, "bd");
        return x;
    }

    private static void kind() {
        BurstTrie x = map();
        Check.due(1, () -> x.kind(0), "an access node");
        Check.due(2, () -> x.kind(w("a")), "a list");
        Check.due(3, () -> x.kind(w("b")), "a tree");
        Check.due(0, () -> x.kind(w("c")), "nothing");
        Check.due(0, () -> x.kind(w("ab")), "a key in a container");
        Check.due(0, () -> x.kind(w("abcdefghijkl")), "far below a container");
        for (long key : NO_KEYS) {
            Check.dueThrow(IllegalArgumentException.class, () -> x.kind(key), "kind of no prefix " + key);
        }
    }

    private static void container() {
        BurstTrie x = map();
        // The tree was made of the records in the order of the keys.
        int[] due = {4, 0, 0, 0, 0, 4};
        for (int what = 0; what <= 5; what++) {
            int number = what;
            Check.due(due[what], () -> x.container(w("b"), number), "tree " + what);
        }
        x.get(w("bc"));
        x.put(w("bcc"), 1);
        Check.dueThrow(NoSuchElementException.class, () -> x.get(w("bbb")), "a miss");
        int[] then = {5, 3, 1, 3 + 4 + 3, 0, 5};
        for (int what = 0; what <= 5; what++) {
            int number = what;
            Check.due(then[what], () -> x.container(w("b"), number), "tree after accesses " + what);
        }
        Check.setRule(x, "size = 2 or size = 5");
        Check.due(1, () -> x.container(w("a"), 4), "the rule for the list");
        Check.due(1, () -> x.container(w("b"), 4), "the rule for the tree");
        Check.due(2, () -> x.container(w("a"), 5), "a list costs its length");
        Check.setRule(x, "size = 3");
        Check.due(0, () -> x.container(w("a"), 4), "the new rule");
    }

    private static void containerExceptions() {
        BurstTrie x = map();
        for (int what : new int[] {-1, 6, Integer.MIN_VALUE, Integer.MAX_VALUE}) {
            Check.dueThrow(IllegalArgumentException.class, () -> x.container(w("a"), what), "what " + what);
            Check.dueThrow(IllegalArgumentException.class, () -> x.container(w("c"), what), "both " + what);
        }
        for (String prefix : new String[] {"", "c", "ab", "bab"}) {
            Check.dueThrow(NoSuchElementException.class, () -> x.container(w(prefix), 0), "none " + prefix);
            Check.dueThrow(NoSuchElementException.class, () -> x.recordAt(w(prefix), -1), "none " + prefix);
        }
        for (long key : NO_KEYS) {
            Check.dueThrow(IllegalArgumentException.class, () -> x.container(key, 0), "no prefix " + key);
            Check.dueThrow(IllegalArgumentException.class, () -> x.recordAt(key, 0), "no prefix " + key);
            Check.dueThrow(IllegalArgumentException.class, () -> x.cost(key), "no key " + key);
        }
    }

    private static void recordAt() {
        BurstTrie x = map();
        Check.due(w("a"), () -> x.recordAt(w("a"), 0), "the front of a list");
        Check.due(w("ab"), () -> x.recordAt(w("a"), 1), "the end of a list");
        for (int index : new int[] {-1, 2, Integer.MIN_VALUE, Integer.MAX_VALUE}) {
            Check.dueThrow(IndexOutOfBoundsException.class, () -> x.recordAt(w("a"), index), "list " + index);
        }
        for (int index : new int[] {-1, 4, Integer.MIN_VALUE, Integer.MAX_VALUE}) {
            Check.dueThrow(IndexOutOfBoundsException.class, () -> x.recordAt(w("b"), index), "tree " + index);
        }
        Check.dueThrow(IndexOutOfBoundsException.class, () -> new BurstTrie().recordAt(0, 0), "empty root");
    }

    private static void preorder() {
        BurstTrie x = new BurstTrie();
        Check.setRule(x, "0");
        x.setLimits(1, 0, 0);
        // h is the second one, so it stands at the top.
        Check.putAll(x, "d", "h", "b", "a", "c", "f", "e", "g", "l", "j", "i", "k", "n", "o");
        Check.due("h,d,b,a,c,f,e,g,l,j,i,k,n,o", () -> Check.row(x, ""), "preorder");
        Check.due(4, () -> x.container(0, 5), "height");
        BurstTrie y = new BurstTrie();
        Check.setRule(y, "0");
        y.setLimits(1, 0, 0);
        Check.putAll(y, "y", "z", "x", "a", "b", "w", "c", "v");
        Check.due("z,y,x,a,b,w,c,v", () -> Check.row(y, ""), "a chain that turns");
        Check.due(8, () -> y.container(0, 5), "its height");
    }

    private static void cost() {
        BurstTrie x = map();
        Check.due(0, () -> x.cost(0), "an own record");
        Check.due(1, () -> x.cost(w("a")), "the front of a list");
        Check.due(2, () -> x.cost(w("ab")), "the end of a list");
        Check.due(1, () -> x.cost(w("ba")), "the top of a tree");
        Check.due(4, () -> x.cost(w("bd")), "its lowest leaf");
        Check.due(-1, () -> x.cost(w("c")), "no child");
        Check.due(-1, () -> x.cost(w("bda")), "not in the container");
        x.remove(0);
        Check.due(-1, () -> x.cost(0), "no own record");
    }

    private static void meanCost() {
        BurstTrie x = map();
        Check.due(0, () -> x.meanCost(false), "no frequencies: numerator");
        Check.due(1, () -> x.meanCost(true), "no frequencies: denominator");
        x.get(0);
        x.get(0);
        Check.due(0, () -> x.meanCost(false), "no cost: numerator");
        Check.due(1, () -> x.meanCost(true), "no cost: denominator");
        x.get(w("bd"));
        x.get(w("bd"));
        Check.due(2, () -> x.meanCost(false), "8 / 4: numerator");
        Check.due(1, () -> x.meanCost(true), "8 / 4: denominator");
        x.get(w("ab"));
        x.get(w("bb"));
        Check.due(11, () -> x.meanCost(false), "11 / 6: numerator");
        Check.due(6, () -> x.meanCost(true), "11 / 6: denominator");
    }

    private static void counters() {
        BurstTrie x = map();
        // The empty word, bb, a and ba became a tree; bc, ab and bd are found missing in it. The list
        // of b became a tree in the burst.
        long[] due = {1, 1, 1, 1, 0 + 1 + 2 + 3 + 2 + 4 + 3, 1, 2, 0, 0};
        for (int what = 0; what <= 8; what++) {
            int number = what;
            Check.due(due[what], () -> x.counter(number), "counter " + what);
        }
        x.put(w("c"), 1);
        Check.due(2, () -> x.counter(1), "another list");
        x.remove(w("ba"));
        x.remove(w("bb"));
        x.remove(w("bc"));
        Check.due(1, () -> x.counter(7), "a tree became a list");
        Check.due(0, () -> x.counter(2), "no tree");
        Check.due(3, () -> x.counter(1), "three lists");
        for (int what : new int[] {-1, 9, Integer.MIN_VALUE, Integer.MAX_VALUE}) {
            Check.dueThrow(IllegalArgumentException.class, () -> x.counter(what), "counter " + what);
        }
    }

    private static void totalIsNeverReset() {
        BurstTrie x = new BurstTrie();
        Check.putAll(x, "a", "b", "c");
        Check.due(3, () -> x.counter(4), "total");
        x.remove(w("a"));
        x.remove(w("b"));
        x.remove(w("c"));
        Check.due(3 + 3 + 2 + 1, () -> x.counter(4), "total in an empty map");
        Check.due(0, () -> x.container(0, 3), "the root's own are new");
    }

    private static void nothingCounted() {
        BurstTrie x = map();
        long total = x.counter(4);
        x.kind(w("b"));
        x.container(w("b"), 5);
        x.recordAt(w("a"), 1);
        x.cost(w("ab"));
        x.meanCost(true);
        Check.due("a,ab", () -> Check.row(x, "a"), "nothing moved");
        Check.due(0, () -> x.container(w("a"), 1), "no access");
        Check.due(0, () -> x.frequency(w("a")), "no frequency");
        Check.due(total, () -> x.counter(4), "no comparison");
    }
}
