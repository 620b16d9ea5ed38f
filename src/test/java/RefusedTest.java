import java.util.Map;
import java.util.NoSuchElementException;
import java.util.TreeMap;
import java.util.function.Consumer;
import java.util.function.Function;
import java.util.function.Supplier;

/**
 * Section 8: which of several exceptions is thrown, and that a method that throws changes nothing.
 * Each refused call is made in maps of all forms, and everything that can be seen is looked at.
 */
public final class RefusedTest {
    private static final Class<? extends Exception> ARGUMENT = IllegalArgumentException.class;
    private static final Class<? extends Exception> STATE = IllegalStateException.class;
    private static final Class<? extends Exception> INDEX = IndexOutOfBoundsException.class;
    private static final Class<? extends Exception> ELEMENT = NoSuchElementException.class;
    private static final Class<? extends Exception> ARITHMETIC = ArithmeticException.class;
    private static final long[] NO_KEYS = {-1, 27L << 55, 1L << 50, 1L << 60};
    private static final int MIN = Integer.MIN_VALUE;
    private static final int MAX = Integer.MAX_VALUE;

    private final String map;
    private final Supplier<BurstTrie> make;
    private final Map<String, Object> before;
    private final Map<String, Object> behind;

    private RefusedTest(String map, Supplier<BurstTrie> make) {
        this.map = map + ", ";
        this.make = make;
        before = View.of(make.get());
        behind = View.behind(make);
    }

    public static void main(String[] args) {
        emptyMap();
        listMap();
        treeMap();
        trieMap();
        fullMap();
        nothingToRemove();
        Check.finish();
    }

    private static long w(String letters) {
        return Check.word(letters);
    }

    // ---- the maps

    /**
     * Cursors of all kinds: 0 in the middle, 1 closed, 2 invalid, 3 behind the last key. There are no
     * keys for 1 and 2, so that they also stand before the first one and behind the last one.
     */
    private static void openCursors(BurstTrie x) {
        x.open(1, w("x"));
        x.close(1);
        x.open(2, w("x"));
        x.put(w("last"), MAX);
        x.open(0, 0);
        x.next(0);
        x.next(0);
        x.open(3, w("a"));
        for (int i = x.prefixCount(w("a")); i > 0; i--) {
            x.next(3);
        }
    }

    private static BurstTrie list() {
        BurstTrie x = new BurstTrie();
        Check.putAll(x, "ab", "b", "a");
        x.put(w("low"), MIN);
        x.get(w("b"));
        x.save(0);
        openCursors(x);
        Check.append(x, "size > 2");
        return x;
    }

    private static BurstTrie tree() {
        BurstTrie x = new BurstTrie();
        Check.setRule(x, "size = 77");
        x.setLimits(3, 3, 1);
        Check.putAll(x, "ab", "b", "a", "c");
        x.put(w("low"), MIN);
        x.get(w("b"));
        openCursors(x);
        Check.setRule(x, "size = 77 or");
        Check.append(x, "1");
        x.save(1);
        return x;
    }

    private static BurstTrie trie() {
        BurstTrie x = new BurstTrie();
        Check.setRule(x, "size > 4");
        x.setLimits(3, 2, 1);
        Check.putAll(x, "", "aab", "aa", "ab", "b", "aaa", "aac", "ac", "aad", "bb", "ba", "bc");
        x.put(w("low"), MIN);
        x.get(w("b"));
        x.get(0);
        openCursors(x);
        x.save(0);
        x.save(1);
        return x;
    }

    /** A hundred records, and a text buffer without room. */
    private static BurstTrie full() {
        BurstTrie x = new BurstTrie();
        x.put(w("low"), MIN);
        for (int i = 0; i < 98; i++) {
            x.put((i / 10 + 1L) << 55 | (i % 10 + 1L) << 50, i);
        }
        openCursors(x);
        Check.append(x, "size > 0" + " ".repeat(192));
        return x;
    }

    // ---- making a call

    /** One exception is due, and everything is as before. */
    private void refused(Class<? extends Exception> due, String call, Function<BurstTrie, Object> action) {
        BurstTrie x = make.get();
        Check.due(due, () -> action.apply(x), map + call);
        Check.same(before, View.of(x), map + "after " + call);
        Check.same(behind, View.behind(after(action)), map + "behind " + call);
    }

    private Supplier<BurstTrie> after(Function<BurstTrie, Object> action) {
        return () -> {
            BurstTrie x = make.get();
            Check.answer(() -> action.apply(x));
            return x;
        };
    }

    private static Function<BurstTrie, Object> doing(Consumer<BurstTrie> action) {
        return x -> {
            action.accept(x);
            return "nothing thrown";
        };
    }

    // ---- what is refused in every map

    private void always() {
        settings();
        keys();
        places();
        cursorNumbers();
        prefixes();
        slots();
    }

    private void settings() {
        int length = (Integer) behind.get("length of the text");
        Object appended = behind.get("append");
        int present = appended instanceof Integer ? length - 20 : length;
        for (int wrong : new int[] {-1, present + 1, 201, MIN, MAX}) {
            refused(ARGUMENT, "setRule " + wrong, x -> x.setRule(wrong));
        }
        int[][] limits = {{0, 3, 2}, {21, 3, 2}, {MIN, 3, 2}, {MAX, 3, 2}, {7, -1, 3}, {7, 21, 3}, {7, 4, -1},
            {7, 4, 21}};
        for (int[] wrong : limits) {
            refused(ARGUMENT, "setLimits " + wrong[0] + " " + wrong[1] + " " + wrong[2],
                    doing(x -> x.setLimits(wrong[0], wrong[1], wrong[2])));
        }
    }

    private void keys() {
        for (long wrong : NO_KEYS) {
            refused(ARGUMENT, "put " + wrong, x -> x.put(wrong, 1));
            refused(ARGUMENT, "get " + wrong, x -> x.get(wrong));
            refused(ARGUMENT, "add " + wrong, x -> x.add(wrong, 1));
            refused(ARGUMENT, "remove " + wrong, x -> x.remove(wrong));
            refused(ARGUMENT, "frequency " + wrong, x -> x.frequency(wrong));
            refused(ARGUMENT, "lower " + wrong, x -> x.lower(wrong));
            refused(ARGUMENT, "ceiling " + wrong, x -> x.ceiling(wrong));
            refused(ARGUMENT, "prefixCount " + wrong, x -> x.prefixCount(wrong));
            refused(ARGUMENT, "longestPrefix " + wrong, x -> x.longestPrefix(wrong));
            refused(ARGUMENT, "sum from " + wrong, x -> x.sum(wrong, w("b")));
            refused(ARGUMENT, "sum to " + wrong, x -> x.sum(w("b"), wrong));
            refused(ARGUMENT, "cost " + wrong, x -> x.cost(wrong));
        }
    }

    private void places() {
        int size = (Integer) before.get("size");
        for (int wrong : new int[] {-1, size, size + 1, MIN, MAX}) {
            refused(INDEX, "keyAt " + wrong, x -> x.keyAt(wrong));
            refused(INDEX, "mostFrequent " + wrong, x -> x.mostFrequent(wrong));
        }
        for (int wrong : new int[] {-1, 9, MIN, MAX}) {
            refused(ARGUMENT, "counter " + wrong, x -> x.counter(wrong));
        }
    }

    /** A cursor out of range comes before a key that is none. */
    private void cursorNumbers() {
        for (int wrong : new int[] {-1, 4, MIN, MAX}) {
            refused(INDEX, "open " + wrong, x -> x.open(wrong, 0));
            refused(INDEX, "open of no prefix " + wrong, x -> x.open(wrong, 1));
            refused(INDEX, "next " + wrong, x -> x.next(wrong));
            refused(INDEX, "previous " + wrong, x -> x.previous(wrong));
            refused(INDEX, "seek " + wrong, x -> x.seek(wrong, 0));
            refused(INDEX, "seek of no key " + wrong, x -> x.seek(wrong, 1));
            refused(INDEX, "removeAt " + wrong, x -> x.removeAt(wrong));
            refused(INDEX, "close " + wrong, x -> x.close(wrong));
        }
    }

    /** No prefix, or another what, comes before a missing container; this before a wrong index. */
    private void prefixes() {
        for (long wrong : NO_KEYS) {
            for (int cursor = 0; cursor < 4; cursor++) {
                int number = cursor;
                refused(ARGUMENT, "open " + number + " " + wrong, x -> x.open(number, wrong));
                refused(ARGUMENT, "seek " + number + " " + wrong, x -> x.seek(number, wrong));
            }
            refused(ARGUMENT, "kind " + wrong, x -> x.kind(wrong));
            refused(ARGUMENT, "container " + wrong, x -> x.container(wrong, 0));
            refused(ARGUMENT, "container " + wrong + " 6", x -> x.container(wrong, 6));
            refused(ARGUMENT, "recordAt " + wrong, x -> x.recordAt(wrong, 0));
            refused(ARGUMENT, "recordAt " + wrong + " -1", x -> x.recordAt(wrong, -1));
        }
        long missing = w("zzz");
        for (int wrong : new int[] {-1, 6, MIN, MAX}) {
            refused(ARGUMENT, "container of the root " + wrong, x -> x.container(0, wrong));
            refused(ARGUMENT, "container of none " + wrong, x -> x.container(missing, wrong));
        }
        for (int what = 0; what <= 5; what++) {
            int number = what;
            refused(ELEMENT, "container of none " + what, x -> x.container(missing, number));
        }
        for (int index : new int[] {-1, 0, 100, MIN, MAX}) {
            refused(ELEMENT, "recordAt of none " + index, x -> x.recordAt(missing, index));
        }
    }

    private void slots() {
        for (int wrong : new int[] {-1, 2, MIN, MAX}) {
            refused(INDEX, "save " + wrong, doing(x -> x.save(wrong)));
            refused(INDEX, "restore " + wrong, x -> x.restore(wrong));
        }
    }

    // ---- what is refused in one of the maps

    private void closedCursor(int cursor, String why) {
        refused(STATE, "next, " + why, x -> x.next(cursor));
        refused(STATE, "previous, " + why, x -> x.previous(cursor));
        refused(STATE, "seek, " + why, x -> x.seek(cursor, 0));
        refused(STATE, "removeAt, " + why, x -> x.removeAt(cursor));
    }

    /** What the cursors that openCursors has left refuse. */
    private void openedCursors() {
        closedCursor(1, "closed");
        closedCursor(2, "invalid");
        refused(ELEMENT, "next behind the last key", x -> x.next(3));
    }

    /** What the records that openCursors and the maps have made refuse. */
    private void overflows() {
        refused(ARITHMETIC, "add to the greatest int", x -> x.add(w("last"), 1));
        refused(ARITHMETIC, "add the greatest to it", x -> x.add(w("last"), MAX));
        refused(ARITHMETIC, "add to the least int", x -> x.add(w("low"), -1));
        refused(ARITHMETIC, "add the least to it", x -> x.add(w("low"), MIN));
    }

    private void places(String prefix, int records) {
        for (int wrong : new int[] {-1, records, MIN, MAX}) {
            refused(INDEX, "recordAt " + prefix + " " + wrong, x -> x.recordAt(w(prefix), wrong));
        }
    }

    /**
     * The one exception: get and remove count an access and its comparisons also if they throw, at
     * the container that they come to, and nothing else.
     */
    private void missing(String key, String container, int comparisons) {
        missing(key, container, comparisons, "get " + key, x -> x.get(w(key)));
        missing(key, container, comparisons, "remove " + key, x -> x.remove(w(key)));
    }

    private void missing(String key, String container, int comparisons, String call,
            Function<BurstTrie, Object> action) {
        BurstTrie x = make.get();
        Check.due(ELEMENT, () -> action.apply(x), map + call);
        Map<String, Object> after = new TreeMap<>(before);
        more(after, "counter 4", comparisons);
        if (container != null) {
            more(after, "container " + container + " 1", 1);
            more(after, "container " + container + " 3", comparisons);
        }
        Check.same(after, View.of(x), map + "after " + call);
        Map<String, Object> behindAfter = new TreeMap<>(behind);
        for (String question : behind.keySet()) {
            if (question.endsWith("counter 4") && !question.startsWith("restored")) {
                more(behindAfter, question, comparisons);
            }
        }
        Check.same(behindAfter, View.behind(after(action)), map + "behind " + call);
    }

    private static void more(Map<String, Object> answers, String question, int amount) {
        answers.put(question, ((Number) answers.get(question)).longValue() + amount);
    }

    private static void emptyMap() {
        RefusedTest test = new RefusedTest("empty map", BurstTrie::new);
        test.always();
        for (int cursor = 0; cursor < 4; cursor++) {
            test.closedCursor(cursor, "never opened " + cursor);
        }
        test.refused(STATE, "restore 0", x -> x.restore(0));
        test.refused(STATE, "restore 1", x -> x.restore(1));
        test.places("", 0);
        test.missing("a", "", 0);
        test.missing("", "", 0);
    }

    private static void listMap() {
        RefusedTest test = new RefusedTest("list", RefusedTest::list);
        test.always();
        test.openedCursors();
        test.overflows();
        test.refused(STATE, "restore 1", x -> x.restore(1));
        test.places("", 5);
        test.missing("aa", "", 5);
        test.missing("", "", 5);
    }

    private static void treeMap() {
        RefusedTest test = new RefusedTest("tree", RefusedTest::tree);
        test.always();
        test.openedCursors();
        test.overflows();
        test.refused(STATE, "restore 0", x -> x.restore(0));
        test.places("", 6);
        test.missing("aa", "", 4);
        test.missing("", "", 2);
        test.missing("d", "", 3);
        test.missing("zzzzzzzzzzzz", "", 2);
    }

    private static void trieMap() {
        RefusedTest test = new RefusedTest("trie", RefusedTest::trie);
        test.always();
        test.openedCursors();
        test.overflows();
        for (String prefix : new String[] {"", "a", "aa", "c", "ba"}) {
            for (int what = 0; what <= 5; what++) {
                int number = what;
                test.refused(ELEMENT, "container " + prefix, x -> x.container(w(prefix), number));
            }
            test.refused(ELEMENT, "recordAt " + prefix, x -> x.recordAt(w(prefix), 0));
            test.refused(ELEMENT, "recordAt " + prefix + " -1", x -> x.recordAt(w(prefix), -1));
        }
        test.places("b", 4);
        test.places("aab", 1);
        test.missing("bd", "b", 1);
        test.missing("bab", "b", 3);
        test.missing("aabc", "aab", 1);
        test.missing("a", null, 0);
        test.missing("c", null, 0);
        test.missing("aae", null, 0);
    }

    /** A new record is refused in a container, without a child, and as the own one of an access node. */
    private static void fullMap() {
        RefusedTest test = new RefusedTest("full map", RefusedTest::full);
        test.always();
        test.openedCursors();
        test.overflows();
        for (String key : new String[] {"ak", "aaa", "jhh", "y", "yyyyyyyyyyyy", "", "a"}) {
            test.refused(STATE, "put " + key, x -> x.put(w(key), 1));
            test.refused(STATE, "add " + key, x -> x.add(w(key), 1));
        }
        test.refused(STATE, "append", x -> x.append(1, 2, 3, 4, 5));
        test.missing("jx", "j", 2);
        test.missing("ak", null, 0);
        test.missing("", null, 0);
    }

    /** Valid cursors without a key that removeAt could remove, before the first key, too. */
    private static void nothingToRemove() {
        Map<String, Consumer<BurstTrie>> ways = Map.of(
                "open", x -> x.open(0, 0),
                "close and open", x -> {
                    x.close(0);
                    x.open(0, 0);
                },
                "seek", x -> x.seek(0, 0));
        ways.forEach((way, go) -> {
            RefusedTest test = new RefusedTest(way, () -> {
                BurstTrie x = list();
                go.accept(x);
                return x;
            });
            test.refused(STATE, "removeAt", x -> x.removeAt(0));
            test.refused(ELEMENT, "previous", x -> x.previous(0));
        });
        RefusedTest test = new RefusedTest("removeAt", () -> {
            BurstTrie x = trie();
            x.removeAt(0);
            return x;
        });
        test.refused(STATE, "removeAt", x -> x.removeAt(0));
    }
}
