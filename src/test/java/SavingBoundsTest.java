import java.util.Map;

/** Promises 31 and 32 at their bounds. */
public final class SavingBoundsTest {
    public static void main(String[] args) {
        slots();
        nothingSaved();
        staysSaved();
        inPlace();
        fromSlotToSlot();
        emptyAndFull();
        deepest();
        allOfTheMap();
        rulesAndLimits();
        outsideTheMap();
        cursors();
        Check.finish();
    }

    private static long w(String letters) {
        return Check.word(letters);
    }

    private static BurstTrie map(String... words) {
        BurstTrie x = new BurstTrie();
        Check.putAll(x, words);
        return x;
    }

    private static String save(BurstTrie x, int slot) {
        x.save(slot);
        return "saved";
    }

    /** "0 or 1". */
    private static void slots() {
        BurstTrie x = map("a");
        for (int slot = -2; slot <= 3; slot++) {
            int number = slot;
            Object due = slot == 0 || slot == 1 ? "saved" : IndexOutOfBoundsException.class;
            Check.due(due, () -> save(x, number), "save " + slot);
        }
        for (int slot = -2; slot <= 3; slot++) {
            int number = slot;
            Object due = slot == 0 || slot == 1 ? 1 : IndexOutOfBoundsException.class;
            Check.due(due, () -> x.restore(number), "restore " + slot);
        }
    }

    /** "if nothing is saved there"; a save in one slot fills no other, a refused one none. */
    private static void nothingSaved() {
        BurstTrie x = map("a");
        Check.dueThrow(IndexOutOfBoundsException.class, () -> x.save(2), "save 2");
        Check.dueThrow(IllegalStateException.class, () -> x.restore(0), "restore 0");
        Check.dueThrow(IllegalStateException.class, () -> x.restore(1), "restore 1");
        x.save(1);
        Check.dueThrow(IllegalStateException.class, () -> x.restore(0), "restore 0");
        Check.due(1, () -> x.restore(1), "restore 1");
        BurstTrie y = map("a");
        y.save(0);
        Check.dueThrow(IllegalStateException.class, () -> y.restore(1), "restore 1");
        Check.due(1, () -> y.restore(0), "restore 0");
    }

    /** "It stays saved": changes after save, and after restore, do not reach it. */
    private static void staysSaved() {
        BurstTrie x = map("a", "b", "c");
        x.get(w("a"));
        Object then = View.of(x);
        x.save(0);
        for (int round = 0; round < 3; round++) {
            x.get(w("b"));
            x.add(w("a"), 5);
            Check.putAll(x, "d");
            x.remove(w("c"));
            Check.due(3, () -> x.restore(0), "the number of records");
            Check.due(then, () -> View.of(x), "all that was saved");
        }
    }

    /** "in place of what was saved there". */
    private static void inPlace() {
        BurstTrie x = map("a", "b");
        x.save(0);
        x.save(1);
        x.remove(w("a"));
        x.save(0);
        Check.due(2, () -> x.restore(1), "the other slot");
        Check.due(1, () -> x.restore(0), "in place of what was saved");
        x.remove(w("b"));
        x.save(0);
        Check.due(0, () -> x.restore(0), "an empty map in place of it");
        Check.due(2, () -> x.restore(1), "the other slot");
    }

    private static void fromSlotToSlot() {
        BurstTrie x = map("a", "b");
        x.save(0);
        x.restore(0);
        x.save(1);
        Check.putAll(x, "c");
        x.save(0);
        Check.due(2, () -> x.restore(1), "saved again in the other slot");
        Check.due(3, () -> x.restore(0), "the first slot");
        x.restore(1);
        x.save(1);
        x.remove(w("a"));
        Check.due(2, () -> x.restore(1), "saved in the slot that it came from");
    }

    private static void emptyAndFull() {
        BurstTrie x = new BurstTrie();
        x.save(0);
        for (int i = 0; i < 100; i++) {
            x.put((i / 10 + 1L) << 55 | (i % 10 + 1L) << 50, i);
        }
        Object full = View.of(x);
        x.save(1);
        Check.due(0, () -> x.restore(0), "an empty map");
        Check.due(View.of(new BurstTrie()), () -> View.of(x), "all of it");
        Check.due(100, () -> x.restore(1), "a full map");
        Check.due(full, () -> View.of(x), "all of it");
        Check.dueThrow(IllegalStateException.class, () -> x.put(w("zz"), 1), "record 101");
    }

    /** Access nodes down to depth 11, with containers of one record each at depth 12. */
    private static void deepest() {
        BurstTrie x = new BurstTrie();
        Check.setRule(x, "1");
        String eleven = "azazazazaza";
        Check.putAll(x, eleven + "b", eleven + "c", eleven);
        for (int i = 0; i < 12; i++) {
            x.get(w(eleven + "b"));
        }
        Check.due(1, () -> x.kind(w(eleven)), "an access node at depth 11");
        Check.due(2, () -> x.kind(w(eleven + "b")), "a list at depth 12");
        Check.due(12, () -> x.counter(0), "access nodes");
        Object then = View.of(x);
        x.save(0);
        for (String last : new String[] {"", "b", "c"}) {
            x.remove(w(eleven + last));
        }
        Check.due(3, () -> x.restore(0), "restore");
        Check.due(1, () -> x.kind(w(eleven)), "the access node at depth 11 again");
        Check.due(2, () -> x.kind(w(eleven + "b")), "the list at depth 12 again");
        Check.due(12, () -> x.counter(0), "access nodes again");
        Check.due(12, () -> x.counter(3), "the greatest depth again");
        Check.due(then, () -> View.of(x), "all that was saved");
        Check.due(11, () -> x.get(w(eleven)), "its value");
    }

    /** Access nodes with an own record, a list that was a tree and a tree; all counters are above 0. */
    private static BurstTrie everyForm() {
        BurstTrie x = new BurstTrie();
        Check.setRule(x, "size > 5");
        x.setLimits(3, 2, 1);
        Check.putAll(x, "bd", "a", "ba", "", "bc", "ab", "bb", "aba", "bda");
        x.get(w("a"));
        x.get(w("bd"));
        x.remove(w("ba"));
        Check.putAll(x, "c", "cc", "ca", "cb");
        x.setLimits(3, 4, 1);
        x.remove(w("ca"));
        x.setLimits(3, 2, 1);
        Check.putAll(x, "da", "db", "ea", "eb");
        Check.setRule(x, "depth = 1");
        x.get(w("da"));
        x.get(w("eb"));
        x.remove(w("db"));
        Check.setRule(x, "size > 5");
        return x;
    }

    /** "the whole map with its structure, its counters". */
    private static void allOfTheMap() {
        BurstTrie x = everyForm();
        int[] kinds = {1, 2, 3, 2, 2, 1};
        for (int i = 0; i < kinds.length; i++) {
            String prefix = "abcde".substring(Math.max(0, i - 1), i);
            Check.due(kinds[i], () -> x.kind(w(prefix)), "kind " + prefix);
        }
        for (int what = 0; what <= 8; what++) {
            int number = what;
            Check.due(true, () -> x.counter(number) > 0, "counter " + what + " is above 0");
        }
        int size = x.size();
        Object then = View.of(x);
        x.save(0);
        Check.due(then, () -> View.of(x), "save changes nothing");
        while (x.size() > 0) {
            x.remove(x.keyAt(x.size() / 2));
        }
        Check.putAll(x, "bd", "q");
        Check.due(size, () -> x.restore(0), "restore");
        Check.due(then, () -> View.of(x), "all that was saved");
        Map<String, Object> due = View.behind(SavingBoundsTest::everyForm);
        // Only one of the two objects has something to restore.
        due.keySet().removeIf(question -> question.startsWith("restore"));
        Map<String, Object> got = View.behind(() -> {
            BurstTrie y = everyForm();
            y.save(0);
            Check.putAll(y, "q");
            y.restore(0);
            return y;
        });
        got.keySet().retainAll(due.keySet());
        Check.same(due, got, "it goes on as before");
    }

    /** "its limits and its rule", also while a text was read in between. */
    private static void rulesAndLimits() {
        Map<String, Object> due = View.behind(SavingBoundsTest::saved);
        Check.same(due, View.behind(() -> {
            BurstTrie x = saved();
            x.setLimits(20, 20, 20);
            Check.setRule(x, "0");
            Check.putAll(x, "d");
            x.restore(0);
            return x;
        }), "as if nothing had been between");
    }

    private static BurstTrie saved() {
        BurstTrie x = new BurstTrie();
        x.setLimits(2, 1, 3);
        Check.setRule(x, "size > 4 or hits > 7");
        Check.putAll(x, "a", "b", "c");
        x.save(0);
        return x;
    }

    /** The text buffer and the error position are no part of the map. */
    private static void outsideTheMap() {
        BurstTrie x = map("a");
        Check.setRule(x, "1 1");
        Check.append(x, "size = 1");
        x.save(0);
        x.setRule(0);
        Check.due(0, () -> x.errorPosition(), "another error");
        x.restore(0);
        Check.due(0, () -> x.errorPosition(), "restore leaves the error position");
        Check.dueThrow(IllegalArgumentException.class, () -> x.setRule(1), "and the empty buffer");
        Check.append(x, "size = 1");
        x.restore(0);
        Check.due(0, () -> x.setRule(8), "and a text in the buffer");
        Check.due(1, () -> x.container(0, 4), "the rule that it says");
    }

    /** Open cursors become invalid by restore, closed ones stay closed; save does nothing to them. */
    private static void cursors() {
        BurstTrie x = map("a", "b");
        x.open(0, 0);
        x.next(0);
        x.save(0);
        Check.due(w("b"), () -> x.next(0), "next after save");
        Check.due(1, () -> x.removeAt(0), "removeAt after save");
        x.restore(0);
        Check.dueThrow(IllegalStateException.class, () -> x.previous(0), "previous after restore");
        Check.dueThrow(IllegalStateException.class, () -> x.removeAt(0), "removeAt after restore");
        Check.due(true, () -> x.close(0), "an invalid cursor is open");
        Check.due(false, () -> x.close(1), "a closed one stays closed");
        Check.due(2, () -> x.open(0, 0), "open after restore");
        Check.due(w("a"), () -> x.next(0), "next after open");
    }
}
