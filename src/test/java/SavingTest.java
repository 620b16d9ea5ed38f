/** Promises 31 and 32: save and restore. */
public final class SavingTest {
    public static void main(String[] args) {
        wholeMap();
        copiesAreApart();
        slots();
        limitsAndRule();
        notSaved();
        emptyMap();
        exceptions();
        Check.finish();
    }

    private static long w(String letters) {
        return Check.word(letters);
    }

    /** An access node with an own record, the list a, the tree b and a deeper node c. */
    private static BurstTrie map() {
        BurstTrie x = new BurstTrie();
        Check.setRule(x, "size > 6 or depth = 1 and size = 3");
        x.setLimits(3, 2, 1);
        Check.putAll(x, "bd", "a", "ba", "", "bc", "ab", "bb");
        Check.putAll(x, "cd", "cde", "c", "bca");
        x.get(w("a"));
        x.get(w("bd"));
        x.get(w("bd"));
        return x;
    }

    private static void same(BurstTrie x, BurstTrie y, String when) {
        Check.same(View.of(y), View.of(x), when);
    }

    private static void wholeMap() {
        BurstTrie x = map();
        x.save(0);
        same(x, map(), "after save");
        for (String word : new String[] {"a", "bd", "", "cd", "ba"}) {
            x.remove(w(word));
        }
        Check.putAll(x, "d", "da", "bcb", "a");
        Check.due(11, () -> x.restore(0), "restore tells the number of records");
        same(x, map(), "after restore");
        for (int i = 0; i < 11; i++) {
            x.remove(x.keyAt(0));
        }
        Check.due(0, () -> x.size(), "emptied");
        Check.due(11, () -> x.restore(0), "it stays saved");
        same(x, map(), "after another restore");
    }

    private static void copiesAreApart() {
        BurstTrie x = map();
        BurstTrie y = map();
        x.save(0);
        x.restore(0);
        x.put(w("a"), 77);
        x.get(w("bb"));
        x.remove(w("cd"));
        x.restore(0);
        same(x, y, "after changes of a restored map");
        x.remove(w("ba"));
        x.get(w("a"));
        y.remove(w("ba"));
        y.get(w("a"));
        same(x, y, "when it goes on as before");
    }

    private static void slots() {
        BurstTrie x = new BurstTrie();
        Check.putAll(x, "a");
        x.save(0);
        Check.putAll(x, "b");
        x.save(1);
        Check.putAll(x, "c");
        Check.due(1, () -> x.restore(0), "slot 0");
        Check.due(2, () -> x.restore(1), "slot 1");
        Check.due(-1, () -> x.frequency(w("c")), "c was not saved");
        Check.putAll(x, "d", "e");
        x.save(0);
        Check.due(2, () -> x.restore(1), "slot 1 again");
        Check.due(4, () -> x.restore(0), "in place of what was saved");
    }

    private static void limitsAndRule() {
        BurstTrie x = new BurstTrie();
        x.setLimits(2, 0, 0);
        Check.setRule(x, "size = 4");
        x.save(1);
        x.setLimits(20, 20, 20);
        Check.setRule(x, "size = 2");
        x.restore(1);
        Check.putAll(x, "a", "b");
        Check.due(2, () -> x.kind(0), "the rule of then");
        Check.putAll(x, "c");
        Check.due(3, () -> x.kind(0), "the limit T of then");
        x.remove(w("c"));
        Check.due(3, () -> x.kind(0), "the limit L of then");
        Check.putAll(x, "c", "d");
        Check.due(1, () -> x.kind(0), "the rule of then, again");
        x.remove(w("c"));
        Check.due(1, () -> x.kind(0), "the limit C of then");
    }

    private static void notSaved() {
        BurstTrie x = map();
        x.save(0);
        Check.append(x, "size >");
        x.open(0, 0);
        x.open(1, 0);
        x.close(1);
        x.restore(0);
        Check.due(40, () -> x.append(0, 0, 0, 0, 0), "the text buffer stays");
        Check.due(true, () -> x.close(0), "an open cursor stays open");
        Check.due(false, () -> x.close(1), "a closed one closed");
    }

    private static void emptyMap() {
        BurstTrie x = new BurstTrie();
        x.save(0);
        Check.putAll(x, "a", "b");
        Check.due(0, () -> x.restore(0), "an empty map");
        Check.due(2, () -> x.kind(0), "its root");
        Check.due(0, () -> x.counter(4), "its total");
        Check.putAll(x, "a");
        Check.due(0, () -> x.restore(0), "still empty");
    }

    private static void exceptions() {
        BurstTrie x = map();
        for (int slot : new int[] {-1, 2, Integer.MIN_VALUE, Integer.MAX_VALUE}) {
            Check.dueThrow(IndexOutOfBoundsException.class, () -> x.save(slot), "save " + slot);
            Check.dueThrow(IndexOutOfBoundsException.class, () -> x.restore(slot), "restore " + slot);
        }
        Check.dueThrow(IllegalStateException.class, () -> x.restore(0), "restore of nothing");
        x.save(0);
        Check.dueThrow(IllegalStateException.class, () -> x.restore(1), "nothing in the other slot");
        same(x, map(), "after exceptions");
    }
}
