import java.util.List;
import java.util.NoSuchElementException;

/** Sections 2 to 4, promises 6 to 8: searching, counting, moving, growing and bursting at their bounds. */
public final class AccessBoundsTest {
    private static final String LETTERS = "abcdefghijklmnopqrstuvwxyz";

    public static void main(String[] args) {
        rootAtFirst();
        everyLetter();
        searchInList();
        searchInTree();
        ownRecord();
        ownRecordMissing();
        noChild();
        newChild();
        moves();
        frequencies();
        growth();
        growthOfNewRecordOnly();
        lastRecord();
        amounts();
        values();
        lastCall();
        Check.finish();
    }

    private static long w(String letters) {
        return Check.word(letters);
    }

    /** An empty map whose records stay in one container. */
    private static BurstTrie quiet(int tree) {
        BurstTrie x = new BurstTrie();
        Check.setRule(x, "0");
        x.setLimits(tree, 0, 0);
        return x;
    }

    /** A map whose root has burst by two records. */
    private static BurstTrie burst(String one, String other) {
        BurstTrie x = quiet(20);
        Check.putAll(x, one);
        Check.setRule(x, "1");
        Check.putAll(x, other);
        Check.setRule(x, "0");
        return x;
    }

    private static void counted(BurstTrie x, String prefix, int accesses, int hits, int comparisons, String when) {
        Check.due(accesses, () -> x.container(w(prefix), 1), "accesses " + when);
        Check.due(hits, () -> x.container(w(prefix), 2), "hits " + when);
        Check.due(comparisons, () -> x.container(w(prefix), 3), "comparisons " + when);
    }

    private static void missing(BurstTrie x, String key) {
        Check.dueThrow(NoSuchElementException.class, () -> x.get(w(key)), "get of the missing " + key);
        Check.dueThrow(NoSuchElementException.class, () -> x.remove(w(key)), "remove of the missing " + key);
    }

    /** "The root stands for the empty prefix; it is a container at first", a list without records. */
    private static void rootAtFirst() {
        BurstTrie x = new BurstTrie();
        Check.due(2, () -> x.kind(0), "the root at first");
        Check.due(0, () -> x.container(0, 0), "its records");
        counted(x, "", 0, 0, 0, "at first");
        Check.due(0, () -> x.container(0, 5), "nothing to find");
        Check.due(0, () -> x.counter(3), "its depth");
        Check.due(0, () -> x.kind(w("a")), "nothing below it");
        missing(x, "a");
        missing(x, "");
        counted(x, "", 4, 0, 0, "after searches in an empty list");
        Check.due(0, () -> x.counter(4), "total after them");
        x.put(0, 1);
        counted(x, "", 5, 0, 0, "after the first put");
        x.get(0);
        counted(x, "", 6, 1, 1, "after the first hit");
    }

    /** "for each letter at most one child": 26 children, from a to z, and an own record. */
    private static void everyLetter() {
        BurstTrie x = burst("a", "z");
        for (int i = 1; i < 25; i++) {
            x.put(w(LETTERS.substring(i, i + 1)), i);
        }
        x.put(0, 99);
        for (int i = 0; i < 26; i++) {
            String letter = LETTERS.substring(i, i + 1);
            Check.due(2, () -> x.kind(w(letter)), "child " + letter);
            Check.due(1, () -> x.cost(w(letter)), "cost of " + letter);
            x.put(w(letter + letter), i);
            Check.due(2, () -> x.container(w(letter), 0), "records of child " + letter);
        }
        Check.due(26, () -> x.counter(1), "one child for each letter");
        Check.due(1, () -> x.counter(0), "one access node");
        Check.due(1, () -> x.counter(3), "greatest depth");
        Check.due(0, () -> x.cost(0), "the own record");
    }

    /** "the records are looked at from the front on, up to the one with the key, or to the end". */
    private static void searchInList() {
        BurstTrie x = quiet(20);
        Check.putAll(x, "c", "b", "a");
        counted(x, "", 3, 0, 0 + 1 + 2, "of new records");
        Check.due(1, () -> x.cost(w("a")), "the front one");
        Check.due(3, () -> x.cost(w("c")), "the last one");
        Check.due(-1, () -> x.cost(w("d")), "a missing one");
        x.get(w("a"));
        counted(x, "", 4, 1, 3 + 1, "of the front one");
        x.get(w("c"));
        counted(x, "", 5, 2, 4 + 3, "of the last one");
        missing(x, "d");
        counted(x, "", 7, 2, 7 + 3 + 3, "of a missing one");
        missing(x, "");
        counted(x, "", 9, 2, 13 + 3 + 3, "of one that is lower than all");
        Check.due(19, () -> x.counter(4), "the total");
    }

    /** "from the root downwards, up to the one with the key, or until there is no subtree to go on". */
    private static void searchInTree() {
        BurstTrie x = quiet(1);
        Check.putAll(x, "t", "m", "d", "p", "x", "o");
        Check.due("m,d,t,p,o,x", () -> Check.row(x, ""), "the tree");
        int before = x.container(0, 3);
        x.get(w("m"));
        counted(x, "", 7, 1, before + 1, "of the top");
        x.get(w("o"));
        counted(x, "", 8, 2, before + 1 + 4, "of the lowest leaf");
        missing(x, "a");
        counted(x, "", 10, 2, before + 5 + 2 + 2, "left of a leaf");
        missing(x, "z");
        counted(x, "", 12, 2, before + 9 + 3 + 3, "right of a leaf");
        missing(x, "q");
        counted(x, "", 14, 2, before + 15 + 3 + 3, "where one of two subtrees is missing");
        missing(x, "n");
        counted(x, "", 16, 2, before + 21 + 4 + 4, "below the lowest leaf");
    }

    /** "the record is the node's own one (or missing), without any comparison". */
    private static void ownRecord() {
        BurstTrie x = burst("", "ab");
        long total = x.counter(4);
        Check.due(0, () -> x.cost(0), "cost of an own record");
        x.get(0);
        x.put(0, 4);
        Check.due(9, () -> x.add(0, 5), "add to an own record");
        Check.due(3, () -> x.frequency(0), "its frequency");
        Check.due(total, () -> x.counter(4), "no comparison");
        Check.due(9, () -> x.remove(0), "remove it");
        Check.due(total, () -> x.counter(4), "no comparison");
        Check.due(true, () -> x.put(0, 6), "put it again");
        Check.due(0, () -> x.frequency(0), "its new frequency");
        Check.due(total, () -> x.counter(4), "no comparison");
        Check.due(1, () -> x.counter(1), "no container for it");
    }

    private static void ownRecordMissing() {
        BurstTrie x = burst("b", "a");
        long total = x.counter(4);
        missing(x, "");
        Check.due(total, () -> x.counter(4), "no comparison for a missing own record");
        counted(x, "a", 0, 0, 0, "of a child");
        Check.due(7, () -> x.add(0, 7), "add makes it");
        Check.due(0, () -> x.cost(0), "its cost");
        Check.due(0, () -> x.frequency(0), "its frequency");
        Check.due(total, () -> x.counter(4), "no comparison for a new own record");
    }

    /** "If there is no child for the next letter, the record is missing." */
    private static void noChild() {
        BurstTrie x = burst("b", "y");
        long total = x.counter(4);
        for (String key : new String[] {"a", "c", "x", "z", "azzzzzzzzzzz"}) {
            missing(x, key);
        }
        Check.due(total, () -> x.counter(4), "no comparison without a child");
        counted(x, "b", 0, 0, 0, "of a child");
        Check.due(2, () -> x.counter(1), "no list was made");
    }

    /** "the child becomes a new list with this record, whose accesses are 1; its other counters are 0". */
    private static void newChild() {
        BurstTrie x = burst("b", "y");
        x.setLimits(1, 0, 0);
        long total = x.counter(4);
        Check.setRule(x, "1");
        x.put(w("abc"), 5);
        x.add(w("zzzzzzzzzzzz"), 6);
        for (String prefix : new String[] {"a", "z"}) {
            Check.due(2, () -> x.kind(w(prefix)), "a list, also if T is 1 and the rule holds");
            Check.due(1, () -> x.container(w(prefix), 0), "one record");
            Check.due(1, () -> x.container(w(prefix), 4), "the rule holds");
            counted(x, prefix, 1, 0, 0, "of a new child");
        }
        Check.due(total, () -> x.counter(4), "no comparison");
        Check.due(0, () -> x.frequency(w("abc")), "its frequency");
        Check.due(4, () -> x.counter(1), "four lists");
    }

    /** "if the container is a list, the record is moved to the front". */
    private static void moves() {
        BurstTrie x = quiet(20);
        Check.putAll(x, "a", "b", "c", "d");
        x.get(w("d"));
        Check.due("d,c,b,a", () -> Check.row(x, ""), "from the front");
        x.get(w("b"));
        Check.due("b,d,c,a", () -> Check.row(x, ""), "from the middle");
        x.put(w("a"), 1);
        Check.due("a,b,d,c", () -> Check.row(x, ""), "from the end, by put");
        x.add(w("c"), 1);
        Check.due("c,a,b,d", () -> Check.row(x, ""), "from the end, by add");
        missing(x, "e");
        Check.due("c,a,b,d", () -> Check.row(x, ""), "a miss moves nothing");
        BurstTrie y = quiet(20);
        Check.putAll(y, "a");
        y.get(w("a"));
        Check.due("a", () -> Check.row(y, ""), "the only one");
        BurstTrie z = quiet(1);
        Check.putAll(z, "a", "b", "c");
        z.get(w("c"));
        Check.due("b,a,c", () -> Check.row(z, ""), "nothing moves in a tree");
    }

    /** "If put, get or add find a record ..., its frequency increases by 1", from 0 on. */
    private static void frequencies() {
        for (String key : new String[] {"", "a"}) {
            for (int tree : new int[] {1, 20}) {
                frequency(quiet(tree), w(key));
            }
            BurstTrie x = burst("b", "y");
            frequency(x, w(key));
        }
    }

    private static void frequency(BurstTrie x, long key) {
        Check.putAll(x, "c", "d");
        Check.due(-1, () -> x.frequency(key), "no frequency of a missing key");
        x.add(key, 1);
        Check.due(0, () -> x.frequency(key), "frequency of a new record, by add");
        x.add(key, 1);
        Check.due(1, () -> x.frequency(key), "frequency after add");
        x.put(key, 1);
        Check.due(2, () -> x.frequency(key), "frequency after put");
        x.get(key);
        Check.due(3, () -> x.frequency(key), "frequency after get");
        x.remove(key);
        Check.due(-1, () -> x.frequency(key), "no frequency after remove");
        x.put(key, 1);
        Check.due(0, () -> x.frequency(key), "frequency of a new record, by put");
    }

    /** "A list that has more than T records after this becomes a tree": T stay a list, T + 1 do not. */
    private static void growth() {
        for (int tree : new int[] {1, 2, 6, 19, 20}) {
            BurstTrie x = new BurstTrie();
            Check.setRule(x, "0");
            if (tree != 6) {
                x.setLimits(tree, 3, 2);
            }
            for (int i = 0; i < tree; i++) {
                x.put(w(LETTERS.substring(i, i + 1)), i);
            }
            String t = ", T is " + tree;
            Check.due(2, () -> x.kind(0), "T records" + t);
            Check.due(0, () -> x.counter(6), "no list became a tree" + t);
            int comparisons = x.container(0, 3);
            Check.due(0, () -> x.add(w("zz"), 0), "record T + 1" + t);
            Check.due(3, () -> x.kind(0), "T + 1 records" + t);
            Check.due(1, () -> x.counter(6), "a list became a tree" + t);
            counted(x, "", tree + 1, 0, comparisons + tree, "stay" + t);
            // In the order of the list: the last one comes first, the others lie to its left in a chain.
            Check.due(w("zz"), () -> x.recordAt(0, 0), "the top" + t);
            Check.due(tree + 1, () -> x.container(0, 5), "the height" + t);
            Check.due(0L, () -> x.counter(1), "no list is left" + t);
        }
    }

    /** A list grows into a tree after a new record only, however many it has. */
    private static void growthOfNewRecordOnly() {
        BurstTrie x = quiet(20);
        Check.putAll(x, "a", "b", "c", "d");
        x.setLimits(1, 0, 0);
        x.get(w("a"));
        x.put(w("b"), 1);
        x.add(w("c"), 1);
        x.remove(w("d"));
        missing(x, "d");
        Check.due(2, () -> x.kind(0), "still a list");
        x.put(w("e"), 1);
        Check.due(3, () -> x.kind(0), "a tree after a new record");
        Check.due("e,c,b,a", () -> Check.row(x, ""), "in the order of the list");
        BurstTrie y = burst("aa", "ab");
        y.setLimits(1, 0, 0);
        y.put(w("b"), 1);
        Check.due(2, () -> y.kind(w("a")), "the list beside the one that gets a record");
        y.put(w("ac"), 1);
        Check.due(3, () -> y.kind(w("a")), "the one that gets it");
    }

    private static BurstTrie filled(int records) {
        BurstTrie x = new BurstTrie();
        for (int i = 0; i < records; i++) {
            x.put((i / 10 + 1L) << 55 | (i % 10 + 1L) << 50, i);
        }
        return x;
    }

    private static void refused(BurstTrie x, String key) {
        Check.dueThrow(IllegalStateException.class, () -> x.put(w(key), 1), "put of record 101, " + key);
        Check.dueThrow(IllegalStateException.class, () -> x.add(w(key), 1), "add of record 101, " + key);
    }

    /** "if a new record would be needed and there are 100 records": the 100th one is made. */
    private static void lastRecord() {
        String[] places = {"zz", "ak", "a", "", "jjj"};
        for (String key : places) {
            BurstTrie x = filled(99);
            Check.due(true, () -> x.put(w(key), 1), "put of record 100, " + key);
            Check.due(100, () -> x.size(), "size");
            BurstTrie y = filled(99);
            Check.due(1, () -> y.add(w(key), 1), "add of record 100, " + key);
            refused(x, key + "x");
            refused(y, "y");
            Check.due(false, () -> x.put(w(key), 2), "put of a present key");
            Check.due(3, () -> x.add(w(key), 1), "add to a present key");
            Check.due(3, () -> x.remove(w(key)), "remove");
            Check.due(true, () -> x.put(w(key + "x"), 2), "put of record 100 again");
            refused(x, key);
        }
    }

    /** "if there is a record and the new value would not be an int". */
    private static void amounts() {
        int max = Integer.MAX_VALUE;
        int min = Integer.MIN_VALUE;
        int[][] sums = {{max, 0, max}, {max - 1, 1, max}, {0, max, max}, {min, 0, min}, {min + 1, -1, min},
            {0, min, min}, {-1, min + 1, min}, {max, min, -1}, {min, max, -1}, {1, max - 1, max}};
        for (int[] sum : sums) {
            BurstTrie x = new BurstTrie();
            Check.due(sum[0], () -> x.add(w("a"), sum[0]), "a missing record is made with the amount");
            Check.due(sum[2], () -> x.add(w("a"), sum[1]), sum[0] + " + " + sum[1]);
            Check.due(sum[2], () -> x.get(w("a")), "the value of it");
        }
        int[][] faults = {{max, 1}, {1, max}, {max, max}, {min, -1}, {-1, min}, {min, min}, {max - 1, 2}};
        for (int[] fault : faults) {
            BurstTrie x = new BurstTrie();
            x.put(w("a"), fault[0]);
            Check.dueThrow(ArithmeticException.class, () -> x.add(w("a"), fault[1]), fault[0] + " + " + fault[1]);
            counted(x, "", 1, 0, 0, "of a refused add");
            Check.due(0, () -> x.frequency(w("a")), "frequency after a refused add");
            Check.due(fault[0], () -> x.get(w("a")), "the value stays");
        }
    }

    private static void values() {
        for (int value : new int[] {Integer.MIN_VALUE, -1, 0, 1, Integer.MAX_VALUE}) {
            for (BurstTrie x : List.of(quiet(20), quiet(1), burst("a", "c"))) {
                Check.due(true, () -> x.put(w("b"), 3), "put of a new key");
                Check.due(true, () -> x.put(0, value), "put of a new key " + value);
                Check.due(value, () -> x.get(0), "its value");
                Check.due(false, () -> x.put(w("b"), value), "put of a present key " + value);
                Check.due(value, () -> x.get(w("b")), "its value");
                Check.due(value, () -> x.remove(w("b")), "the value of a removed one");
            }
        }
    }

    /** "An object is used for at most 512 calls": the last one counts like all others. */
    private static void lastCall() {
        BurstTrie x = new BurstTrie();
        x.put(w("a"), 1);
        for (int i = 0; i < 510; i++) {
            x.get(w("a"));
        }
        Check.due(510, () -> x.frequency(w("a")), "call 512");
        Check.due(510, () -> x.counter(4), "the total after them");
    }
}
