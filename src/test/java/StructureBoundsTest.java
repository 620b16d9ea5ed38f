import java.util.NoSuchElementException;

/** Promises 25 to 30 at their bounds. */
public final class StructureBoundsTest {
    private static final Class<? extends Exception> ELEMENT = NoSuchElementException.class;

    public static void main(String[] args) {
        kinds();
        numbersOfEmptyRoot();
        numbersOfOneRecord();
        greatestCosts();
        ruleForAny();
        places();
        costs();
        fractions();
        weightedByFrequency();
        countersAtFirst();
        eachCounter();
        depths();
        nothingCounted();
        Check.finish();
    }

    private static long w(String letters) {
        return Check.word(letters);
    }

    private static BurstTrie quiet(int tree, String... words) {
        BurstTrie x = new BurstTrie();
        Check.setRule(x, "0");
        x.setLimits(tree, 0, 0);
        Check.putAll(x, words);
        return x;
    }

    private static BurstTrie burst(String... words) {
        BurstTrie x = quiet(20, words);
        Check.setRule(x, "1");
        x.get(w(words[0]));
        Check.setRule(x, "0");
        return x;
    }

    private static void numbers(BurstTrie x, String prefix, int... due) {
        for (int what = 0; what < due.length; what++) {
            int number = what;
            Check.due(due[what], () -> x.container(w(prefix), number), "container " + prefix + " " + what);
        }
    }

    /** "0 nothing, 1 an access node, 2 a list, 3 a tree". */
    private static void kinds() {
        BurstTrie x = burst("aa", "ab", "b", "");
        x.setLimits(1, 0, 0);
        Check.putAll(x, "bb");
        String[] prefixes = {"", "a", "b", "c", "aa", "bb", "z", "ba", "aaa", "zzzzzzzzzzzz"};
        int[] kinds = {1, 2, 3, 0, 0, 0, 0, 0, 0, 0};
        for (int i = 0; i < prefixes.length; i++) {
            String prefix = prefixes[i];
            Check.due(kinds[i], () -> x.kind(w(prefix)), "kind " + prefix);
            if (kinds[i] < 2) {
                Check.dueThrow(ELEMENT, () -> x.container(w(prefix), 0), "container " + prefix);
                Check.dueThrow(ELEMENT, () -> x.recordAt(w(prefix), 0), "recordAt " + prefix);
            }
        }
    }

    private static void numbersOfEmptyRoot() {
        BurstTrie x = new BurstTrie();
        numbers(x, "", 0, 0, 0, 0, 0, 0);
        Check.setRule(x, "size = 0");
        numbers(x, "", 0, 0, 0, 0, 1, 0);
    }

    private static void numbersOfOneRecord() {
        BurstTrie x = quiet(1, "a");
        numbers(x, "", 1, 1, 0, 0, 0, 1);
        x.get(w("a"));
        numbers(x, "", 1, 2, 1, 1, 0, 1);
        Check.dueThrow(ELEMENT, () -> x.get(w("b")), "a miss");
        numbers(x, "", 1, 3, 1, 2, 0, 1);
    }

    /** "the greatest number of comparisons that finding one of its records takes". */
    private static void greatestCosts() {
        numbers(quiet(20, "a", "b", "c"), "", 3, 3, 0, 3, 0, 3);
        numbers(quiet(2, "a", "b", "c"), "", 3, 3, 0, 3, 0, 3);
        // The list b, c, a of T records grows with d in front of it.
        numbers(quiet(3, "a", "c", "b", "d"), "", 4, 4, 0, 6, 0, 3);
        Check.due(2, () -> quiet(1, "a", "b", "c").container(0, 5), "both subtrees");
        Check.due(3, () -> quiet(1, "a", "b", "c", "d").container(0, 5), "the right one is higher");
        Check.due(3, () -> quiet(1, "b", "d", "e", "c", "a").container(0, 5), "the left one is higher");
        Check.due(1, () -> burst("a", "b").container(w("a"), 5), "one record");
    }

    /** "1 if the burst rule holds for it, otherwise 0", also if it has fewer than 2 records. */
    private static void ruleForAny() {
        BurstTrie x = burst("a", "b", "bb");
        Check.setRule(x, "size > 1");
        Check.due(0, () -> x.container(w("a"), 4), "1 record");
        Check.due(1, () -> x.container(w("b"), 4), "2 records");
        Check.setRule(x, "size < 2 and depth = 1");
        Check.due(1, () -> x.container(w("a"), 4), "1 record");
        Check.due(0, () -> x.container(w("b"), 4), "2 records");
        Check.setRule(x, "0-7");
        Check.due(1, () -> x.container(w("a"), 4), "any other value than 0");
    }

    private static void place(BurstTrie x, String... words) {
        for (int i = 0; i < words.length; i++) {
            int index = i;
            Check.due(w(words[i]), () -> x.recordAt(0, index), "recordAt " + i);
        }
        for (int index : new int[] {-1, words.length, Integer.MIN_VALUE, Integer.MAX_VALUE}) {
            Check.dueThrow(IndexOutOfBoundsException.class, () -> x.recordAt(0, index), "recordAt " + index);
        }
    }

    private static void places() {
        place(quiet(20));
        place(quiet(20, "a"), "a");
        place(quiet(20, "a", "b", "c"), "c", "b", "a");
        place(quiet(1, "a", "b"), "b", "a");
        place(quiet(1, "b", "a"), "a", "b");
        place(quiet(1, "d", "f", "b", "a", "c", "e", "h", "g"), "f", "d", "b", "a", "c", "e", "h", "g");
    }

    /** "0 for the own record of an access node; NONE if there is no record with this key". */
    private static void costs() {
        BurstTrie x = burst("", "a", "ab", "b");
        Check.due(0, () -> x.cost(0), "an own record");
        Check.due(2, () -> x.cost(w("a")), "the last of a list");
        Check.due(1, () -> x.cost(w("ab")), "the front of a list");
        for (String missing : new String[] {"aa", "c", "abc", "bb", "zzzzzzzzzzzz"}) {
            Check.due(-1, () -> x.cost(w(missing)), "cost of the missing " + missing);
        }
        Check.due(-1, () -> burst("a", "b").cost(0), "a missing own record");
        Check.due(-1, () -> new BurstTrie().cost(0), "an empty map");
    }

    private static void fraction(BurstTrie x, long numerator, long denominator, String name) {
        Check.due(numerator, () -> x.meanCost(false), "numerator, " + name);
        Check.due(denominator, () -> x.meanCost(true), "denominator, " + name);
    }

    /** "as a fraction in lowest terms ...; 0 / 1 if the latter is 0". */
    private static void fractions() {
        fraction(new BurstTrie(), 0, 1, "no records");
        BurstTrie x = quiet(20, "a", "b");
        fraction(x, 0, 1, "no frequencies");
        x.get(w("a"));
        fraction(x, 1, 1, "1 / 1");
        x.get(w("b"));
        fraction(x, 3, 2, "(2 + 1) / 2");
        x.get(w("b"));
        fraction(x, 4, 3, "(2 + 2) / 3");
        x.get(w("b"));
        fraction(x, 5, 4, "(2 + 3) / 4");
        x.get(w("a"));
        x.get(w("a"));
        fraction(x, 3, 2, "(3 + 6) / 6");
        x.remove(w("a"));
        fraction(x, 1, 1, "3 / 3");
        x.remove(w("b"));
        fraction(x, 0, 1, "no records again");
    }

    /** Records of frequency 0 do not count, own records cost 0. */
    private static void weightedByFrequency() {
        BurstTrie x = burst("", "a", "b");
        fraction(x, 0, 1, "an own record alone: 0 / 1");
        for (int i = 0; i < 4; i++) {
            x.get(0);
        }
        fraction(x, 0, 1, "0 / 5");
        x.get(w("b"));
        fraction(x, 1, 6, "1 / 6");
        x.get(w("a"));
        fraction(x, 2, 7, "2 / 7");
        x.get(w("a"));
        fraction(x, 3, 8, "3 / 8");
        x.get(w("a"));
        fraction(x, 4, 9, "4 / 9");
        x.get(w("a"));
        fraction(x, 1, 2, "5 / 10");
    }

    private static void counters(BurstTrie x, String when, long... due) {
        for (int what = 0; what < due.length; what++) {
            int number = what;
            Check.due(due[what], () -> x.counter(number), "counter " + what + ", " + when);
        }
        for (int what : new int[] {-1, 9}) {
            Check.dueThrow(IllegalArgumentException.class, () -> x.counter(what), "counter " + what);
        }
    }

    private static void countersAtFirst() {
        counters(new BurstTrie(), "at first", 0, 1, 0, 0, 0, 0, 0, 0, 0);
    }

    /** Each counter as it comes to change. */
    private static void eachCounter() {
        BurstTrie x = quiet(2, "a", "b");
        counters(x, "a list", 0, 1, 0, 0, 1, 0, 0, 0, 0);
        Check.putAll(x, "ab");
        counters(x, "a list became a tree", 0, 0, 1, 0, 3, 0, 1, 0, 0);
        Check.setRule(x, "1");
        x.get(w("b"));
        counters(x, "a burst", 1, 2, 0, 1, 5, 1, 1, 0, 0);
        Check.setRule(x, "0");
        x.setLimits(1, 2, 0);
        Check.putAll(x, "ac");
        counters(x, "a child became a tree", 1, 1, 1, 1, 7, 1, 2, 0, 0);
        x.remove(w("ac"));
        counters(x, "still one", 1, 1, 1, 1, 8, 1, 2, 0, 0);
        x.remove(w("a"));
        counters(x, "a tree became a list", 1, 2, 0, 1, 9, 1, 2, 1, 0);
        x.remove(w("ab"));
        counters(x, "a container was removed", 1, 1, 0, 1, 10, 1, 2, 1, 0);
        x.remove(w("b"));
        counters(x, "an access node was removed", 0, 1, 0, 0, 11, 1, 2, 1, 1);
    }

    /** "greatest depth of an access node or a container", which may be an access node's own. */
    private static void depths() {
        BurstTrie x = burst("b", "aa", "aaa");
        Check.due(1, () -> x.counter(3), "a container below the root");
        Check.setRule(x, "1");
        x.get(w("aa"));
        Check.due(2, () -> x.counter(3), "a container below a");
        x.get(w("aa"));
        Check.due(3, () -> x.counter(3), "a container below aa");
        x.setLimits(20, 0, 0);
        x.remove(w("aaa"));
        Check.due(2, () -> x.counter(3), "the access node aa alone");
        Check.due(1, () -> x.kind(w("aa")), "it is one");
        x.remove(w("aa"));
        Check.due(1, () -> x.counter(3), "the container b");
    }

    /** To look at the structure is no access, and bursts nothing. */
    private static void nothingCounted() {
        BurstTrie x = burst("aa", "ab", "b", "");
        Check.setRule(x, "1");
        Object before = View.of(x);
        for (String word : new String[] {"", "a", "aa", "ab", "b", "c"}) {
            x.kind(w(word));
            x.cost(w(word));
            for (int number = 0; number <= 5; number++) {
                int what = number;
                Check.answer(() -> x.container(w(word), what));
                Check.answer(() -> x.recordAt(w(word), what));
                x.counter(what);
            }
            x.meanCost(true);
            x.meanCost(false);
        }
        Check.due(before, () -> View.of(x), "all answers are as before");
    }
}
