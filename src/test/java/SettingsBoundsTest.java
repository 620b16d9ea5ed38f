import java.util.Map;

/** Promises 1 to 5 at their bounds. */
public final class SettingsBoundsTest {
    private static final int SPACES = 0x20202020;

    public static void main(String[] args) {
        newObject();
        room();
        bytes();
        lengths();
        emptyAfterwards();
        rangeOfLimits();
        limitsAtFirst();
        noChangeByLimits();
        latestCall();
        Check.finish();
    }

    private static long w(String letters) {
        return Check.word(letters);
    }

    private static int spaces(BurstTrie x) {
        return x.append(SPACES, SPACES, SPACES, SPACES, SPACES);
    }

    /** "Creates an empty map. No cursor is open, nothing is saved, and the text buffer is empty." */
    private static void newObject() {
        BurstTrie x = new BurstTrie();
        Check.due(0, () -> x.size(), "an empty map");
        for (int number = 0; number <= 3; number++) {
            int cursor = number;
            Check.due(false, () -> x.close(cursor), "no cursor is open");
        }
        Check.dueThrow(IllegalStateException.class, () -> x.restore(0), "nothing is saved in 0");
        Check.dueThrow(IllegalStateException.class, () -> x.restore(1), "nothing is saved in 1");
        Check.dueThrow(IllegalArgumentException.class, () -> x.setRule(1), "the text buffer is empty");
        Check.due(BurstTrie.NONE, () -> x.errorPosition(), "no call of setRule so far");
        Check.due(BurstTrie.SYNTAX_ERROR, () -> x.setRule(0), "its 0 bytes can be read");
        Check.due(0, () -> x.errorPosition(), "the end of the text");
    }

    /** "if the length would exceed 200": ten times 20 bytes. */
    private static void room() {
        BurstTrie x = new BurstTrie();
        for (int length = 20; length <= 200; length += 20) {
            Check.due(length, () -> spaces(x), "append up to " + length);
        }
        Check.dueThrow(IllegalStateException.class, () -> spaces(x), "append up to 220");
        Check.due(BurstTrie.SYNTAX_ERROR, () -> x.setRule(200), "200 bytes can be read");
        Check.due(200, () -> x.errorPosition(), "they are spaces");
        Check.due(20, () -> spaces(x), "there is room again");
    }

    /** "the four bytes of each argument in order, the most significant byte first". */
    private static void bytes() {
        for (int place = 0; place < 20; place++) {
            for (int sign : new int[] {0, '!', 0x7f, 0x80, 0xff}) {
                int[] four = {SPACES, SPACES, SPACES, SPACES, SPACES};
                int shift = 24 - 8 * (place % 4);
                four[place / 4] = SPACES & ~(255 << shift) | sign << shift;
                BurstTrie x = new BurstTrie();
                x.append(four[0], four[1], four[2], four[3], four[4]);
                int at = place;
                Check.due(BurstTrie.SYNTAX_ERROR, () -> x.setRule(20), "byte " + sign + " at " + place);
                Check.due(at, () -> x.errorPosition(), "place of byte " + sign);
                spaces(x);
                x.append(four[0], four[1], four[2], four[3], four[4]);
                Check.due(BurstTrie.SYNTAX_ERROR, () -> x.setRule(40), "byte " + sign + " in the second call");
                Check.due(20 + at, () -> x.errorPosition(), "place of byte " + sign + " in the second call");
            }
        }
    }

    /** "number of bytes, 0 to the length of the buffer". */
    private static void lengths() {
        for (int length = 20; length <= 200; length += 60) {
            BurstTrie x = new BurstTrie();
            Check.append(x, "1" + " ".repeat(length - 1));
            int above = length + 1;
            Check.dueThrow(IllegalArgumentException.class, () -> x.setRule(above), "one byte too many");
            Check.dueThrow(IllegalArgumentException.class, () -> x.setRule(-1), "one byte too few");
            Check.due(0, () -> x.setRule(above - 1), "the whole buffer");
            Check.append(x, "1" + " ".repeat(length - 1));
            Check.due(0, () -> x.setRule(1), "one byte");
            Check.append(x, "1" + " ".repeat(length - 1));
            Check.due(BurstTrie.SYNTAX_ERROR, () -> x.setRule(0), "no byte");
        }
    }

    /** "The buffer is empty afterwards in both cases." */
    private static void emptyAfterwards() {
        for (String text : new String[] {"1", "1 1", "100001", "((((((", ""}) {
            BurstTrie x = new BurstTrie();
            Check.append(x, text + " ".repeat(30));
            x.setRule(text.length());
            Check.dueThrow(IllegalArgumentException.class, () -> x.setRule(1), "read again after '" + text + "'");
            Check.due(20, () -> spaces(x), "append after '" + text + "'");
        }
    }

    /** "T, 1 to 20", "L, 0 to 20", "C, 0 to 20". */
    private static void rangeOfLimits() {
        BurstTrie x = new BurstTrie();
        for (int tree = -1; tree <= 22; tree++) {
            for (int other : new int[] {0, 20}) {
                int limit = tree;
                Object due = limit < 1 || limit > 20 ? IllegalArgumentException.class : "set";
                Check.due(due, () -> set(x, limit, other, other), "T " + limit);
                Object dueOther = limit < 0 || limit > 20 ? IllegalArgumentException.class : "set";
                Check.due(dueOther, () -> set(x, 1, limit, other), "L " + limit);
                Check.due(dueOther, () -> set(x, 20, other, limit), "C " + limit);
            }
        }
    }

    private static String set(BurstTrie x, int tree, int list, int collapse) {
        x.setLimits(tree, list, collapse);
        return "set";
    }

    /** T is 6, L is 3 and C is 2 at first, and again after they were other numbers. */
    private static void limitsAtFirst() {
        Map<String, Object> due = View.behind(BurstTrie::new);
        Check.same(due, View.behind(() -> {
            BurstTrie x = new BurstTrie();
            x.setLimits(1, 0, 20);
            x.setLimits(6, 3, 2);
            return x;
        }), "limits set to what they were");
        Check.same(due, View.behind(() -> {
            BurstTrie x = new BurstTrie();
            Check.dueThrow(IllegalArgumentException.class, () -> x.setLimits(1, 0, 21), "refused limits");
            return x;
        }), "refused limits");
    }

    /** "The structure does not change by this." */
    private static void noChangeByLimits() {
        BurstTrie x = new BurstTrie();
        Check.setRule(x, "size > 4");
        Check.putAll(x, "aa", "ab", "b", "c", "aca", "acb", "acc");
        Object before = View.of(x);
        for (int limit = 1; limit <= 20; limit++) {
            x.setLimits(limit, limit, limit);
            Check.due(before, () -> View.of(x), "the structure, limits " + limit);
        }
        x.setLimits(1, 0, 0);
        Check.due(before, () -> View.of(x), "the structure, least limits");
        x.get(w("aa"));
        Check.due(2, () -> x.counter(0) + x.counter(2), "nor by a hit");
    }

    /** "the error that the latest call of setRule found"; "NONE if ... there was no call that did not throw". */
    private static void latestCall() {
        BurstTrie x = new BurstTrie();
        Check.dueThrow(IllegalArgumentException.class, () -> x.setRule(-1), "a call that throws");
        Check.due(-1, () -> x.errorPosition(), "no call that did not throw");
        Check.setRule(x, "1 1");
        Check.due(2, () -> x.errorPosition(), "an error");
        Check.due(2, () -> x.errorPosition(), "the same when asked again");
        Check.dueThrow(IllegalArgumentException.class, () -> x.setRule(1), "a call that throws");
        Check.due(2, () -> x.errorPosition(), "the latest call that did not throw");
        Check.append(x, "100001");
        Check.due(2, () -> x.errorPosition(), "append reads nothing");
        x.setRule(6);
        Check.due(0, () -> x.errorPosition(), "the error of the latest call");
        Check.setRule(x, "1");
        Check.due(-1, () -> x.errorPosition(), "it found no error");
    }
}
