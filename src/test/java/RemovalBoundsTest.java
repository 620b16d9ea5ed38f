import java.util.NoSuchElementException;

/** Section 5, promise 9: removing, shrinking and collapsing at their bounds. */
public final class RemovalBoundsTest {
    private static final String LETTERS = "abcdefghijklmnopqrstuvwxyz";

    public static void main(String[] args) {
        counting();
        fromList();
        fromTree();
        heirs();
        limitL();
        limitLAtFirst();
        noLimitL();
        limitLOfLists();
        emptyContainer();
        emptyRootList();
        emptyRootTree();
        limitC();
        limitCAtFirst();
        ownRecordCounts();
        ownRecordRemoved();
        collapsedToList();
        limitTOfCollapsed();
        nothingLeft();
        deepestFirst();
        onlyOnTheWay();
        vanishing();
        notFound();
        byCursor();
        Check.finish();
    }

    private static long w(String letters) {
        return Check.word(letters);
    }

    /** An empty map whose records stay in one container. */
    private static BurstTrie quiet(int tree, int list, int collapse) {
        BurstTrie x = new BurstTrie();
        Check.setRule(x, "0");
        x.setLimits(tree, list, collapse);
        return x;
    }

    /** A map of which each container that has two records has burst; no collapse so far. */
    private static BurstTrie burst(int collapse, String... words) {
        BurstTrie x = quiet(20, 0, 0);
        Check.putAll(x, words);
        Check.setRule(x, "1");
        for (String word : words) {
            for (int i = 0; i < 12; i++) {
                x.get(w(word));
            }
        }
        Check.setRule(x, "0");
        x.setLimits(20, 0, collapse);
        return x;
    }

    private static void remove(BurstTrie x, String... words) {
        for (String word : words) {
            Check.due(word.length(), () -> x.remove(w(word)), "remove " + word);
        }
    }

    private static void row(String want, BurstTrie x, String prefix) {
        Check.due(want, () -> Check.row(x, prefix), "the records of '" + prefix + "'");
    }

    /** remove is an access: it counts, and a hit counts, but a frequency does not increase. */
    private static void counting() {
        BurstTrie x = quiet(20, 0, 0);
        Check.putAll(x, "a", "b", "c");
        remove(x, "a");
        Check.due(4, () -> x.container(0, 1), "accesses");
        Check.due(1, () -> x.container(0, 2), "hits");
        Check.due(3 + 3, () -> x.container(0, 3), "comparisons");
        Check.due(6, () -> x.counter(4), "total");
        Check.due(0, () -> x.frequency(w("b")), "frequency of another");
        Check.due(true, () -> x.put(w("a"), 1), "a removed key is new again");
        Check.due(0, () -> x.frequency(w("a")), "its frequency");
    }

    /** The first, the middle and the last record of a list. */
    private static void fromList() {
        BurstTrie x = quiet(20, 20, 0);
        Check.putAll(x, "e", "d", "c", "b", "a");
        remove(x, "a");
        row("b,c,d,e", x, "");
        remove(x, "c");
        row("b,d,e", x, "");
        remove(x, "e");
        row("b,d", x, "");
        remove(x, "d", "b");
        row("", x, "");
    }

    /** A tree of 12 records with all kinds of subtrees, m at the top. */
    private static BurstTrie tree() {
        BurstTrie x = quiet(1, 0, 0);
        Check.putAll(x, "t", "m", "f", "c", "h", "a", "d", "p", "x", "z", "n", "o");
        row("m,f,c,a,d,h,t,p,n,o,x,z", x, "");
        return x;
    }

    private static void withoutOne(String word, String want) {
        BurstTrie x = tree();
        remove(x, word);
        row(want, x, "");
        Check.due(3, () -> x.kind(0), "still a tree");
        for (int i = 0; i < x.size(); i++) {
            long key = x.keyAt(i);
            Check.due(true, () -> x.cost(key) > 0, "each record is found");
        }
    }

    /** "a record with one subtree is replaced by this subtree"; one without is taken out. */
    private static void fromTree() {
        withoutOne("a", "m,f,c,d,h,t,p,n,o,x,z");
        withoutOne("d", "m,f,c,a,h,t,p,n,o,x,z");
        withoutOne("z", "m,f,c,a,d,h,t,p,n,o,x");
        withoutOne("o", "m,f,c,a,d,h,t,p,n,x,z");
        withoutOne("p", "m,f,c,a,d,h,t,n,o,x,z");
        withoutOne("x", "m,f,c,a,d,h,t,p,n,o,z");
        withoutOne("n", "m,f,c,a,d,h,t,p,o,x,z");
        BurstTrie x = quiet(1, 0, 0);
        Check.putAll(x, "b", "a", "c");
        remove(x, "a");
        row("b,c", x, "");
        remove(x, "b");
        row("c", x, "");
        Check.putAll(x, "b");
        remove(x, "c");
        row("b", x, "");
    }

    /** "replaced by the record with the lowest key of its right subtree", taken out in the same way. */
    private static void heirs() {
        // The heir is the right subtree's top, without a subtree, and with one.
        withoutOne("f", "m,h,c,a,d,t,p,n,o,x,z");
        withoutOne("t", "m,f,c,a,d,h,x,p,n,o,z");
        // The heir is deep, and its right subtree takes its place.
        withoutOne("m", "n,f,c,a,d,h,t,p,o,x,z");
        withoutOne("c", "m,f,d,a,h,t,p,n,o,x,z");
        BurstTrie x = tree();
        remove(x, "m", "n", "o");
        row("p,f,c,a,d,h,t,x,z", x, "");
        remove(x, "p", "t", "x", "z");
        row("f,c,a,d,h", x, "");
    }

    /** "A tree that has fewer than L records after this ... becomes a list": L stay a tree. */
    private static void limitL() {
        for (int list : new int[] {2, 3, 4, 19, 20}) {
            BurstTrie x = quiet(1, list, 0);
            for (int i = 0; i < list + 1; i++) {
                x.put(w(LETTERS.substring(i, i + 1)), 1);
            }
            String l = ", L is " + list;
            remove(x, "b");
            Check.due(3, () -> x.kind(0), "L records" + l);
            Check.due(0, () -> x.counter(7), "no tree became a list" + l);
            int accesses = x.container(0, 1);
            int hits = x.container(0, 2);
            int comparisons = x.container(0, 3) + x.cost(w("a"));
            remove(x, "a");
            Check.due(2, () -> x.kind(0), "L - 1 records" + l);
            Check.due(1, () -> x.counter(7), "a tree became a list" + l);
            Check.due(accesses + 1, () -> x.container(0, 1), "its accesses stay" + l);
            Check.due(hits + 1, () -> x.container(0, 2), "its hits stay" + l);
            Check.due(comparisons, () -> x.container(0, 3), "its comparisons stay" + l);
            for (int i = 0; i < list - 1; i++) {
                int place = i;
                Check.due(x.keyAt(i), () -> x.recordAt(0, place), "in the order of the keys" + l);
            }
        }
    }

    /** "L is a setting, 0 to 20, at first 3." */
    private static void limitLAtFirst() {
        BurstTrie x = new BurstTrie();
        Check.putAll(x, "a", "b", "c", "d", "e", "f", "g");
        remove(x, "a", "b", "c", "d");
        Check.due(3, () -> x.kind(0), "3 records");
        remove(x, "e");
        Check.due(2, () -> x.kind(0), "2 records");
    }

    /** "but at least one": with an L of 0 or 1 no tree becomes a list. */
    private static void noLimitL() {
        for (int list = 0; list <= 1; list++) {
            BurstTrie x = quiet(1, list, 0);
            Check.putAll(x, "a", "b", "c");
            remove(x, "a", "b");
            Check.due(3, () -> x.kind(0), "a tree of one, L is " + list);
            remove(x, "c");
            Check.due(2, () -> x.kind(0), "an empty list, L is " + list);
            Check.due(0, () -> x.counter(7), "no tree became a list by L " + list);
        }
        BurstTrie x = quiet(1, 2, 0);
        Check.putAll(x, "a", "b");
        remove(x, "a");
        Check.due(2, () -> x.kind(0), "a list of one, L is 2");
    }

    /** Only a tree becomes a list; a list that has fewer than L records stays as it is. */
    private static void limitLOfLists() {
        BurstTrie x = quiet(20, 20, 0);
        Check.putAll(x, "a", "b", "c");
        remove(x, "b");
        row("c,a", x, "");
        Check.due(0, () -> x.counter(7), "no tree became a list");
        BurstTrie y = quiet(1, 0, 0);
        Check.putAll(y, "a", "b", "c");
        y.setLimits(1, 20, 0);
        y.get(w("a"));
        y.put(w("d"), 1);
        Check.due(3, () -> y.kind(0), "a tree stays one until a record is removed");
        Check.dueThrow(NoSuchElementException.class, () -> y.remove(w("e")), "nothing is removed");
        Check.due(3, () -> y.kind(0), "still a tree");
    }

    /** "A container without records is removed from its access node". */
    private static void emptyContainer() {
        for (int tree : new int[] {1, 20}) {
            BurstTrie x = burst(0, "a", "b", "c");
            x.setLimits(tree, 0, 0);
            Check.putAll(x, "bb");
            remove(x, "b");
            Check.due(tree == 1 ? 3 : 2, () -> x.kind(w("b")), "one record is left");
            remove(x, "bb");
            Check.due(0, () -> x.kind(w("b")), "none is left");
            Check.due(1, () -> x.kind(0), "the access node stays");
            Check.due(2, () -> x.counter(1), "two lists");
            Check.due(0, () -> x.counter(2), "no tree");
            Check.due(0, () -> x.counter(7) + x.counter(8), "no other change of form");
            Check.dueThrow(NoSuchElementException.class, () -> x.get(w("b")), "the key is missing");
            Check.due(true, () -> x.put(w("bbb"), 1), "a new child in its place");
            Check.due(1, () -> x.container(w("b"), 1), "with new counters");
        }
    }

    private static void isNewRoot(BurstTrie x) {
        Check.due(2, () -> x.kind(0), "a list");
        for (int what = 0; what <= 3; what++) {
            int number = what;
            Check.due(0, () -> x.container(0, number), "new counters " + what);
        }
        Check.due(0, () -> x.size(), "no record");
        Check.due(1, () -> x.counter(1), "one list");
        Check.due(0, () -> x.counter(0) + x.counter(2) + x.counter(3), "nothing else");
    }

    /** "the root, however, becomes an empty list with new counters". */
    private static void emptyRootList() {
        for (String word : new String[] {"", "a", "zzzzzzzzzzzz"}) {
            BurstTrie x = quiet(20, 3, 2);
            Check.putAll(x, word);
            x.get(w(word));
            remove(x, word);
            isNewRoot(x);
            Check.due(0, () -> x.counter(7) + x.counter(8), "no change of form counts");
            Check.due(2, () -> x.counter(4), "the total stays");
        }
    }

    private static void emptyRootTree() {
        BurstTrie x = quiet(1, 1, 2);
        Check.putAll(x, "a", "b");
        remove(x, "a", "b");
        isNewRoot(x);
        Check.putAll(x, "a");
        Check.due(2, () -> x.kind(0), "it goes on as a list");
    }

    /** "An access node below which there are at most C records ... is collapsed": C + 1 stay. */
    private static void limitC() {
        for (int collapse : new int[] {1, 2, 3, 19, 20}) {
            BurstTrie x = quiet(20, 0, 0);
            for (int i = 0; i < collapse + 2; i++) {
                x.put(w(LETTERS.substring(i, i + 1)), 1);
            }
            Check.setRule(x, "1");
            x.get(w("a"));
            x.setLimits(20, 0, collapse);
            Check.setRule(x, "0");
            String c = ", C is " + collapse;
            remove(x, "b");
            Check.due(1, () -> x.kind(0), "C + 1 records" + c);
            Check.due(0, () -> x.counter(8), "nothing is collapsed" + c);
            remove(x, "a");
            Check.due(2, () -> x.kind(0), "C records" + c);
            Check.due(1, () -> x.counter(8), "one is collapsed" + c);
            Check.due(collapse, () -> x.container(0, 0), "its records" + c);
        }
    }

    /** "C is a setting, 0 to 20, at first 2." */
    private static void limitCAtFirst() {
        BurstTrie x = new BurstTrie();
        Check.putAll(x, "a", "b", "c", "d", "e", "f", "g", "h", "i");
        remove(x, "a", "b", "c", "d", "e", "f");
        Check.due(1, () -> x.kind(0), "3 records");
        remove(x, "g");
        row("h,i", x, "");
        Check.due(1, () -> x.counter(8), "2 records");
    }

    /** "at most C records, its own one included". */
    private static void ownRecordCounts() {
        BurstTrie x = burst(2, "", "a", "b", "c");
        remove(x, "a");
        Check.due(1, () -> x.kind(0), "3 records with the own one");
        remove(x, "b");
        row(",c", x, "");
        BurstTrie y = burst(1, "", "a", "b");
        remove(y, "a");
        Check.due(1, () -> y.kind(0), "2 records with the own one");
        remove(y, "b");
        row("", y, "");
        Check.due(1, () -> y.container(0, 0), "the own one is left");
        Check.due(1, () -> y.cost(0), "in a list");
    }

    /** The removed record is the own one of an access node. */
    private static void ownRecordRemoved() {
        BurstTrie x = burst(2, "", "a", "b", "c");
        remove(x, "");
        Check.due(1, () -> x.kind(0), "3 records");
        BurstTrie y = burst(2, "", "a", "b");
        remove(y, "");
        row("a,b", y, "");
        Check.due(1, () -> y.counter(8), "2 records");
        BurstTrie z = burst(0, "", "a");
        remove(z, "a");
        Check.due(1, () -> z.kind(0), "the own one alone keeps the node, C is 0");
        Check.due(0, () -> z.counter(1), "no container is left");
        remove(z, "");
        isNewRoot(z);
        Check.due(1, () -> z.counter(8), "one is removed");
    }

    /** "a list with these records in the order of the keys ..., with all counters 0". */
    private static void collapsedToList() {
        BurstTrie x = burst(4, "ca", "b", "cb", "a", "c", "");
        remove(x, "a");
        Check.due(1, () -> x.kind(0), "5 records");
        int frequency = x.frequency(w("cb"));
        long total = x.counter(4);
        remove(x, "b");
        row(",c,ca,cb", x, "");
        for (int what = 1; what <= 3; what++) {
            int number = what;
            Check.due(0, () -> x.container(0, number), "counter " + what);
        }
        Check.due(frequency, () -> x.frequency(w("cb")), "frequencies stay");
        Check.due(total + 1, () -> x.counter(4), "the total stays");
        Check.due(1, () -> x.counter(1), "one list");
        Check.due(0, () -> x.counter(3), "nothing below it");
    }

    /** "by a tree if they are more than T, into which they are inserted in this order". */
    private static void limitTOfCollapsed() {
        for (int tree : new int[] {1, 3, 18}) {
            for (int more = 0; more <= 1; more++) {
                BurstTrie x = quiet(20, 0, 0);
                int left = tree + more;
                for (int i = 0; i < left + 1; i++) {
                    x.put(w(LETTERS.substring(i, i + 1)), 1);
                }
                Check.setRule(x, "1");
                x.get(w("a"));
                x.setLimits(tree, 20, left);
                Check.setRule(x, "0");
                remove(x, "a");
                String t = left + " records, T is " + tree;
                Check.due(2 + more, () -> x.kind(0), t);
                Check.due(more, () -> x.counter(6), "trees, " + t);
                Check.due(0, () -> x.counter(7), "L does not matter, " + t);
                Check.due(w("b"), () -> x.recordAt(0, 0), "the front, or the top, " + t);
                Check.due(left, () -> x.container(0, 5), "in the order of the keys, " + t);
                Check.due(0, () -> x.container(0, 1), "counters, " + t);
            }
        }
    }

    /** "if there are no records at all, it is removed, but the root becomes an empty list". */
    private static void nothingLeft() {
        BurstTrie x = burst(0, "aaa", "aab", "b");
        remove(x, "aaa", "aab");
        Check.due(0, () -> x.kind(w("a")), "nothing is left of a");
        Check.due(2, () -> x.counter(8), "a and aa are removed");
        Check.due(1, () -> x.kind(0), "the root stays");
        Check.due(1, () -> x.counter(0), "alone");
        Check.due(1, () -> x.counter(3), "greatest depth");
        remove(x, "b");
        isNewRoot(x);
        Check.due(3, () -> x.counter(8), "the root counts, too");
        Check.putAll(x, "a", "b");
        row("b,a", x, "");
    }

    /** "from the deepest one up to the root": the lower one alone, or one after the other. */
    private static void deepestFirst() {
        BurstTrie x = burst(2, "aaa", "aab", "aac", "ab");
        remove(x, "aac");
        Check.due(2, () -> x.kind(w("aa")), "aa is collapsed");
        row("aaa,aab", x, "aa");
        Check.due(1, () -> x.kind(w("a")), "3 records keep a");
        Check.due(1, () -> x.kind(0), "and the root");
        Check.due(1, () -> x.counter(8), "one is collapsed");
        remove(x, "ab");
        row("aaa,aab", x, "");
        Check.due(3, () -> x.counter(8), "a and the root are collapsed");
        BurstTrie y = burst(2, "aaa", "aab", "aac");
        remove(y, "aac");
        row("aaa,aab", y, "");
        Check.due(3, () -> y.counter(8), "three are collapsed");
    }

    /** "the access nodes on the way are looked at": others wait, whatever C is. */
    private static void onlyOnTheWay() {
        BurstTrie x = burst(3, "aa", "ab", "ba", "bb", "ca", "cb");
        remove(x, "ca");
        Check.due(2, () -> x.kind(w("c")), "c is on the way");
        Check.due(1, () -> x.kind(w("a")), "a is not");
        Check.due(1, () -> x.kind(w("b")), "b is not");
        remove(x, "ba");
        Check.due(2, () -> x.kind(w("b")), "b is on the way now");
        Check.due(1, () -> x.kind(w("a")), "a is not");
        Check.due(2, () -> x.counter(8), "two are collapsed");
    }

    /** "(not those that vanish below a collapsed one)". */
    private static void vanishing() {
        BurstTrie x = burst(0, "aa", "ab", "bba", "bbb", "c");
        x.setLimits(20, 0, 4);
        Check.due(4, () -> x.counter(0), "access nodes");
        remove(x, "c");
        row("aa,ab,bba,bbb", x, "");
        Check.due(0, () -> x.counter(0), "no access node");
        Check.due(1, () -> x.counter(8), "the root alone is collapsed");
    }

    /** "If remove finds a record": otherwise nothing shrinks and nothing is collapsed. */
    private static void notFound() {
        BurstTrie x = burst(0, "aa", "ab", "b");
        x.setLimits(1, 20, 20);
        for (String word : new String[] {"", "a", "ac", "aaa", "c", "bb"}) {
            Check.dueThrow(NoSuchElementException.class, () -> x.remove(w(word)), "remove of the missing " + word);
        }
        Check.due(0, () -> x.counter(8), "nothing is collapsed");
        x.get(w("aa"));
        x.put(w("aa"), 2);
        x.put(w("ac"), 2);
        Check.due(0, () -> x.counter(8), "nor by other accesses");
        remove(x, "ac");
        Check.due(2, () -> x.counter(8), "but by a remove that finds its record");
    }

    /** removeAt removes "in the same way as remove does (an access that finds the record)". */
    private static void byCursor() {
        String[] words = {"", "aaa", "aab", "aac", "ab", "ba", "bb"};
        for (int collapse : new int[] {0, 2, 3}) {
            BurstTrie x = burst(collapse, words);
            BurstTrie y = burst(collapse, words);
            x.open(0, 0);
            for (int i = 0; i < words.length; i++) {
                long key = x.next(0);
                x.removeAt(0);
                y.remove(key);
                Check.same(View.of(y), View.of(x), "removeAt of record " + i + ", C is " + collapse);
            }
        }
        BurstTrie x = quiet(2, 3, 0);
        BurstTrie y = quiet(2, 3, 0);
        for (BurstTrie each : new BurstTrie[] {x, y}) {
            Check.putAll(each, "d", "b", "f", "a", "c", "e", "g");
        }
        x.open(0, 0);
        while (x.size() > 0) {
            long key = x.next(0);
            x.removeAt(0);
            y.remove(key);
            Check.same(View.of(y), View.of(x), "removeAt from a tree");
        }
    }
}
