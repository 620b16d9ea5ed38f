import java.util.NoSuchElementException;

/** Promises 1 to 5: a new object, append, setRule, errorPosition and setLimits. */
public final class SettingsTest {
    private static final int SPACES = 538976288;

    public static void main(String[] args) {
        newObject();
        append();
        appendOrder();
        ruleLength();
        ruleKeptAfterError();
        ruleNeedsNoBurst();
        errorPosition();
        limitsRange();
        limitsKeepStructure();
        limitTree();
        limitList();
        limitCollapse();
        Check.finish();
    }

    private static void newObject() {
        BurstTrie x = new BurstTrie();
        Check.due(0, () -> x.size(), "size of a new object");
        Check.due(2, () -> x.kind(0), "kind of a new root");
        for (int what = 0; what <= 5; what++) {
            int number = what;
            Check.due(0, () -> x.container(0, number), "container of a new root " + number);
        }
        for (int what = 0; what <= 8; what++) {
            int number = what;
            Check.due(number == 1 ? 1 : 0, () -> x.counter(number), "counter of a new object " + number);
        }
        for (int cursor = 0; cursor < 4; cursor++) {
            int number = cursor;
            Check.due(false, () -> x.close(number), "close of a new cursor");
        }
        Check.dueThrow(IllegalStateException.class, () -> x.restore(0), "restore 0 of nothing");
        Check.dueThrow(IllegalStateException.class, () -> x.restore(1), "restore 1 of nothing");
        Check.dueThrow(IllegalArgumentException.class, () -> x.setRule(1), "setRule without a text");
        Check.due(20, () -> x.append(1, 2, 3, 4, 5), "append to an empty buffer");
        BurstTrie y = new BurstTrie();
        x.put(0, 1);
        Check.due(0, () -> y.size(), "another object stays empty");
    }

    private static void append() {
        BurstTrie x = new BurstTrie();
        for (int length = 20; length <= 200; length += 20) {
            Check.due(length, () -> x.append(SPACES, -1, 0, Integer.MIN_VALUE, 1), "append");
        }
        Check.dueThrow(IllegalStateException.class, () -> x.append(0, 0, 0, 0, 0), "append beyond 200");
        Check.dueThrow(IllegalArgumentException.class, () -> x.setRule(201), "setRule of 201");
        Check.due(BurstTrie.SYNTAX_ERROR, () -> x.setRule(200), "setRule of 200");
        Check.due(4, () -> x.errorPosition(), "position of the byte 255");
        Check.due(20, () -> x.append(0, 0, 0, 0, 0), "append after setRule");
    }

    private static void appendOrder() {
        BurstTrie x = new BurstTrie();
        // "1234", "5+  ", ")   " and so on: the order of bytes and arguments shows in the position.
        x.append(0x31323334, 0x352b2020, 0x20202029, SPACES, SPACES);
        Check.due(BurstTrie.SYNTAX_ERROR, () -> x.setRule(20), "a bracket behind a sign");
        Check.due(11, () -> x.errorPosition(), "position of the bracket");
        String[] places = {"A       ", " A      ", "  A     ", "   A    ", "    A   ", "                 A",
            "        A", "            A", "                   A"};
        for (String text : places) {
            Check.due(BurstTrie.SYNTAX_ERROR, () -> Check.setRule(x, text), "A in '" + text + "'");
            Check.due(text.indexOf('A'), () -> x.errorPosition(), "position in '" + text + "'");
        }
    }

    private static void ruleLength() {
        BurstTrie x = new BurstTrie();
        x.append(0x31313131, SPACES, SPACES, SPACES, SPACES);
        Check.dueThrow(IllegalArgumentException.class, () -> x.setRule(-1), "setRule of -1");
        Check.dueThrow(IllegalArgumentException.class, () -> x.setRule(21), "setRule of 21");
        Check.dueThrow(IllegalArgumentException.class, () -> x.setRule(Integer.MIN_VALUE), "setRule of MIN");
        Check.due(0, () -> x.setRule(20), "the buffer stays after an exception");
        Check.dueThrow(IllegalArgumentException.class, () -> x.setRule(1), "the buffer is empty afterwards");
        x.append(0x31412020, SPACES, SPACES, SPACES, SPACES);
        Check.due(0, () -> x.setRule(1), "only the first byte is read");
        Check.due(BurstTrie.SYNTAX_ERROR, () -> x.setRule(0), "no text");
        Check.due(0, () -> x.errorPosition(), "position of no text");
        x.append(0x31412020, SPACES, SPACES, SPACES, SPACES);
        Check.due(BurstTrie.SYNTAX_ERROR, () -> x.setRule(2), "two bytes are read");
        Check.dueThrow(IllegalArgumentException.class, () -> x.setRule(1), "empty after an error, too");
    }

    private static void ruleKeptAfterError() {
        BurstTrie x = new BurstTrie();
        Check.due(0, () -> Check.setRule(x, "size = 1"), "a rule");
        Check.due(BurstTrie.SYNTAX_ERROR, () -> Check.setRule(x, "size ="), "a broken one");
        Check.due(BurstTrie.VALUE_ERROR, () -> Check.setRule(x, "100001"), "too great a number");
        Check.putAll(x, "a");
        Check.due(1, () -> x.container(0, 4), "the present rule stays");
        Check.putAll(x, "b");
        Check.due(2, () -> x.kind(0), "it does not hold for two");
    }

    private static void ruleNeedsNoBurst() {
        BurstTrie x = new BurstTrie();
        Check.putAll(x, "a", "b", "c");
        Check.setRule(x, "1");
        Check.due(2, () -> x.kind(0), "no container bursts by setRule");
        Check.due(0, () -> x.counter(5), "no burst");
        Check.due(1, () -> x.get(Check.word("a")), "get");
        Check.due(1, () -> x.kind(0), "it bursts by the next access");
    }

    private static void errorPosition() {
        BurstTrie x = new BurstTrie();
        Check.due(BurstTrie.NONE, () -> x.errorPosition(), "position before any call");
        Check.dueThrow(IllegalArgumentException.class, () -> x.setRule(5), "a call that throws");
        Check.due(BurstTrie.NONE, () -> x.errorPosition(), "position after it");
        Check.setRule(x, "size > > 3");
        Check.due(7, () -> x.errorPosition(), "position of an error");
        Check.dueThrow(IllegalArgumentException.class, () -> x.setRule(5), "a call that throws");
        Check.due(7, () -> x.errorPosition(), "position stays after it");
        x.save(0);
        Check.setRule(x, "size");
        Check.due(BurstTrie.NONE, () -> x.errorPosition(), "position of no error");
        Check.setRule(x, "4 size");
        x.restore(0);
        Check.due(2, () -> x.errorPosition(), "restore leaves it");
    }

    private static void limitsRange() {
        BurstTrie x = new BurstTrie();
        int[][] wrong = {{0, 3, 2}, {21, 3, 2}, {-1, 3, 2}, {6, -1, 2}, {6, 21, 2}, {6, 3, -1}, {6, 3, 21},
            {Integer.MIN_VALUE, 3, 2}, {6, Integer.MAX_VALUE, 2}, {6, 3, Integer.MIN_VALUE}};
        for (int[] limits : wrong) {
            Check.dueThrow(IllegalArgumentException.class,
                    () -> x.setLimits(limits[0], limits[1], limits[2]), "limits out of range");
        }
        // A refused call changes none of the three.
        Check.dueThrow(IllegalArgumentException.class, () -> x.setLimits(1, 0, 21), "limits out of range");
        Check.putAll(x, "a", "b", "c", "d", "e", "f");
        Check.due(2, () -> x.kind(0), "T is 6 at first");
        Check.putAll(x, "g");
        Check.due(3, () -> x.kind(0), "a tree of 7");
        x.setLimits(1, 0, 0);
        x.setLimits(20, 20, 20);
    }

    private static void limitsKeepStructure() {
        BurstTrie x = new BurstTrie();
        Check.putAll(x, "a", "b", "c");
        x.setLimits(2, 0, 0);
        Check.due(2, () -> x.kind(0), "the list stays a list");
        x.get(Check.word("a"));
        x.put(Check.word("a"), 4);
        Check.due(2, () -> x.kind(0), "also if a record is found in it");
        Check.putAll(x, "d");
        Check.due(3, () -> x.kind(0), "until a record is inserted");
        x.setLimits(20, 20, 20);
        Check.due(3, () -> x.kind(0), "the tree stays a tree");
        x.remove(Check.word("d"));
        Check.due(2, () -> x.kind(0), "until a record is removed");
    }

    private static void limitTree() {
        for (int limit : new int[] {1, 2, 7, 20}) {
            BurstTrie x = new BurstTrie();
            Check.setRule(x, "0");
            x.setLimits(limit, 0, 0);
            for (int i = 0; i < limit; i++) {
                x.put((i + 1L) << 55, i);
            }
            Check.due(2, () -> x.kind(0), "a list of T records");
            x.put(26L << 55, 0);
            Check.due(3, () -> x.kind(0), "a tree of one more");
            Check.due(1, () -> x.counter(6), "lists that became trees");
        }
    }

    private static void limitList() {
        for (int limit : new int[] {0, 1, 2, 4}) {
            BurstTrie x = new BurstTrie();
            x.setLimits(1, limit, 0);
            Check.putAll(x, "a", "b", "c", "d", "e");
            for (int left = 4; left >= 1; left--) {
                x.remove(x.keyAt(0));
                Check.due(left < limit ? 2 : 3, () -> x.kind(0), "L " + limit);
            }
            Check.due(limit >= 2 ? 1 : 0, () -> x.counter(7), "trees that became lists, L " + limit);
        }
        BurstTrie x = new BurstTrie();
        x.setLimits(1, 20, 0);
        Check.putAll(x, "a", "b", "c");
        Check.due(3, () -> x.kind(0), "L above T, after insertion");
        x.remove(Check.word("b"));
        Check.due(2, () -> x.kind(0), "L above T, after removal");
        Check.dueThrow(NoSuchElementException.class, () -> x.remove(Check.word("b")), "nothing to remove");
    }

    private static void limitCollapse() {
        for (int limit : new int[] {0, 1, 3}) {
            BurstTrie x = new BurstTrie();
            Check.setRule(x, "size > 4");
            x.setLimits(20, 0, limit);
            Check.putAll(x, "a", "b", "c", "d", "e");
            Check.due(1, () -> x.kind(0), "burst");
            for (int left = 4; left >= 1; left--) {
                x.remove(x.keyAt(0));
                Check.due(left <= limit ? 2 : 1, () -> x.kind(0), "C " + limit + ", left " + left);
            }
            x.remove(x.keyAt(0));
            Check.due(2, () -> x.kind(0), "without records, C " + limit);
            Check.due(1, () -> x.counter(8), "collapses, C " + limit);
        }
    }
}
