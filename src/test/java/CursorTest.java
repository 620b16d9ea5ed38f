import java.util.NoSuchElementException;

/** Promises 19 to 24: cursors. */
public final class CursorTest {
    public static void main(String[] args) {
        open();
        nextAndPrevious();
        seek();
        removeAtAfterNext();
        removeAtAfterPrevious();
        removeAtNeedsACall();
        removeAtIsAnAccess();
        close();
        validity();
        fourCursors();
        numbers();
        orderOfExceptions();
        Check.finish();
    }

    private static long w(String letters) {
        return Check.word(letters);
    }

    private static BurstTrie map() {
        BurstTrie x = new BurstTrie();
        Check.putAll(x, "b", "ab", "abc", "a", "ac", "z", "");
        return x;
    }

    private static void next(BurstTrie x, int cursor, String want) {
        Check.due(w(want), () -> x.next(cursor), "next " + want);
    }

    private static void previous(BurstTrie x, int cursor, String want) {
        Check.due(w(want), () -> x.previous(cursor), "previous " + want);
    }

    private static void atEnd(BurstTrie x, int cursor) {
        Check.dueThrow(NoSuchElementException.class, () -> x.next(cursor), "behind the last key");
    }

    private static void atStart(BurstTrie x, int cursor) {
        Check.dueThrow(NoSuchElementException.class, () -> x.previous(cursor), "before the first key");
    }

    private static void isInvalid(BurstTrie x, int cursor, String why) {
        Check.dueThrow(IllegalStateException.class, () -> x.next(cursor), "next, " + why);
        Check.dueThrow(IllegalStateException.class, () -> x.previous(cursor), "previous, " + why);
        Check.dueThrow(IllegalStateException.class, () -> x.seek(cursor, 0), "seek, " + why);
        Check.dueThrow(IllegalStateException.class, () -> x.removeAt(cursor), "removeAt, " + why);
    }

    private static void open() {
        BurstTrie x = map();
        Check.due(7, () -> x.open(0, 0), "open over all");
        atStart(x, 0);
        next(x, 0, "");
        Check.due(4, () -> x.open(0, w("a")), "open in place of what it was");
        atStart(x, 0);
        next(x, 0, "a");
        Check.due(0, () -> x.open(0, w("c")), "open over nothing");
        atStart(x, 0);
        atEnd(x, 0);
        Check.due(1, () -> x.open(0, w("abc")), "open over one key");
        next(x, 0, "abc");
        atEnd(x, 0);
        Check.due(0, () -> new BurstTrie().open(3, 0), "open in an empty map");
        Check.dueThrow(IllegalArgumentException.class, () -> x.open(0, 1), "open with no prefix");
        previous(x, 0, "abc");
        Check.dueThrow(IllegalArgumentException.class, () -> x.open(1, -1), "open with no prefix");
        Check.due(false, () -> x.close(1), "it was not opened");
    }

    private static void nextAndPrevious() {
        BurstTrie x = map();
        x.open(1, w("a"));
        next(x, 1, "a");
        next(x, 1, "ab");
        previous(x, 1, "ab");
        previous(x, 1, "a");
        atStart(x, 1);
        next(x, 1, "a");
        next(x, 1, "ab");
        next(x, 1, "abc");
        next(x, 1, "ac");
        atEnd(x, 1);
        atEnd(x, 1);
        previous(x, 1, "ac");
    }

    private static void seek() {
        BurstTrie x = map();
        x.open(2, w("a"));
        Check.due(2, () -> x.seek(2, w("abb")), "seek between keys");
        next(x, 2, "abc");
        Check.due(3, () -> x.seek(2, w("ab")), "seek a key");
        previous(x, 2, "a");
        Check.due(4, () -> x.seek(2, 0), "seek before all");
        atStart(x, 2);
        Check.due(0, () -> x.seek(2, w("b")), "seek behind all");
        atEnd(x, 2);
        previous(x, 2, "ac");
        Check.due(0, () -> x.seek(2, w("ad")), "seek behind the last with the prefix");
        x.open(2, w("q"));
        Check.due(0, () -> x.seek(2, w("a")), "seek among nothing");
    }

    private static void removeAtAfterNext() {
        BurstTrie x = map();
        x.open(0, w("a"));
        next(x, 0, "a");
        next(x, 0, "ab");
        Check.due(2, () -> x.removeAt(0), "removeAt");
        Check.due(-1, () -> x.frequency(w("ab")), "the record is gone");
        next(x, 0, "abc");
        Check.due(3, () -> x.removeAt(0), "removeAt again");
        previous(x, 0, "a");
        next(x, 0, "a");
        next(x, 0, "ac");
        Check.due(2, () -> x.removeAt(0), "removeAt of the last");
        atEnd(x, 0);
        previous(x, 0, "a");
        Check.due(1, () -> x.removeAt(0), "removeAt of the only one");
        atEnd(x, 0);
        atStart(x, 0);
        Check.due(3, () -> x.size(), "the others stay");
        Check.due(0, () -> x.seek(0, 0), "seek among nothing");
    }

    private static void removeAtAfterPrevious() {
        BurstTrie x = map();
        x.open(0, w("a"));
        x.seek(0, w("ac"));
        previous(x, 0, "abc");
        Check.due(3, () -> x.removeAt(0), "removeAt");
        next(x, 0, "ac");
        previous(x, 0, "ac");
        previous(x, 0, "ab");
        previous(x, 0, "a");
        atStart(x, 0);
        Check.due(1, () -> x.removeAt(0), "removeAt after a call that threw");
        atStart(x, 0);
        next(x, 0, "ab");
    }

    private static void removeAtNeedsACall() {
        BurstTrie x = map();
        x.open(0, w("a"));
        Check.dueThrow(IllegalStateException.class, () -> x.removeAt(0), "removeAt after open");
        next(x, 0, "a");
        x.seek(0, w("ab"));
        Check.dueThrow(IllegalStateException.class, () -> x.removeAt(0), "removeAt after seek");
        next(x, 0, "ab");
        Check.dueThrow(IllegalArgumentException.class, () -> x.seek(0, 5), "a seek that throws");
        Check.due(2, () -> x.removeAt(0), "it changed nothing");
        Check.dueThrow(IllegalStateException.class, () -> x.removeAt(0), "removeAt after removeAt");
        next(x, 0, "abc");
        x.open(0, w("a"));
        Check.dueThrow(IllegalStateException.class, () -> x.removeAt(0), "removeAt after open again");
        next(x, 0, "a");
        next(x, 0, "abc");
        next(x, 0, "ac");
        atEnd(x, 0);
        Check.due(2, () -> x.removeAt(0), "a next that throws changes nothing");
    }

    private static void removeAtIsAnAccess() {
        BurstTrie x = new BurstTrie();
        Check.putAll(x, "a", "b", "c");
        x.open(0, 0);
        next(x, 0, "a");
        Check.due(1, () -> x.removeAt(0), "removeAt");
        Check.due(4, () -> x.container(0, 1), "accesses");
        Check.due(1, () -> x.container(0, 2), "hits");
        Check.due(0 + 1 + 2 + 3, () -> x.container(0, 3), "comparisons");
        Check.due(6, () -> x.counter(4), "total");
        Check.setRule(x, "1");
        Check.putAll(x, "d");
        x.open(0, 0);
        next(x, 0, "b");
        Check.due(1, () -> x.removeAt(0), "removeAt below an access node");
        Check.due(2, () -> x.kind(0), "it collapses");
        next(x, 0, "c");
        Check.due(1, () -> x.removeAt(0), "removeAt");
        next(x, 0, "d");
        Check.due(1, () -> x.removeAt(0), "removeAt of the last record");
        Check.due(0, () -> x.container(0, 1), "an empty list with new counters");
    }

    private static void close() {
        BurstTrie x = map();
        Check.due(false, () -> x.close(0), "close of a closed one");
        x.open(0, 0);
        next(x, 0, "");
        Check.due(true, () -> x.close(0), "close of an open one");
        isInvalid(x, 0, "closed");
        Check.due(false, () -> x.close(0), "close again");
        x.open(0, 0);
        Check.putAll(x, "q");
        Check.due(true, () -> x.close(0), "close of an invalid one");
        isInvalid(x, 0, "closed");
        isInvalid(x, 3, "never opened");
    }

    private static void validity() {
        BurstTrie x = map();
        x.open(0, w("a"));
        x.put(w("ab"), 9);
        x.add(w("z"), 9);
        x.get(w("b"));
        x.setLimits(1, 1, 1);
        Check.setRule(x, "1");
        x.get(w("b"));
        x.save(0);
        Check.dueThrow(NoSuchElementException.class, () -> x.remove(w("q")), "nothing removed");
        Check.dueThrow(NoSuchElementException.class, () -> x.get(w("q")), "nothing found");
        Check.dueThrow(IllegalArgumentException.class, () -> x.put(1, 1), "no key");
        Check.dueThrow(IllegalStateException.class, () -> x.restore(1), "nothing saved");
        Check.due(1, () -> x.kind(0), "a burst");
        next(x, 0, "a");
        Check.putAll(x, "q");
        isInvalid(x, 0, "after put");
        x.open(0, w("a"));
        x.add(w("qq"), 1);
        isInvalid(x, 0, "after add");
        x.open(0, w("a"));
        x.remove(w("qq"));
        isInvalid(x, 0, "after remove");
        x.open(0, w("a"));
        x.restore(0);
        isInvalid(x, 0, "after restore");
        x.restore(0);
        x.open(0, w("a"));
        next(x, 0, "a");
        x.open(1, w("a"));
        next(x, 1, "a");
        x.removeAt(1);
        isInvalid(x, 0, "after removeAt of another cursor");
        next(x, 1, "ab");
        x.put(w("a"), 1);
        isInvalid(x, 1, "after put of the same key again");
        Check.due(5, () -> x.open(1, w("a")) + 1, "open makes it valid");
        next(x, 1, "a");
        Check.due(true, () -> x.close(0), "an invalid cursor is open");
    }

    private static void fourCursors() {
        BurstTrie x = map();
        x.open(0, 0);
        x.open(1, w("a"));
        x.open(2, w("ab"));
        x.open(3, w("z"));
        next(x, 3, "z");
        next(x, 2, "ab");
        next(x, 1, "a");
        next(x, 0, "");
        next(x, 2, "abc");
        atEnd(x, 2);
        next(x, 1, "ab");
        previous(x, 0, "");
        x.close(1);
        previous(x, 2, "abc");
        next(x, 0, "");
    }

    private static void numbers() {
        BurstTrie x = map();
        for (int cursor : new int[] {-1, 4, Integer.MIN_VALUE, Integer.MAX_VALUE}) {
            Class<? extends Exception> due = IndexOutOfBoundsException.class;
            Check.dueThrow(due, () -> x.open(cursor, 0), "open " + cursor);
            Check.dueThrow(due, () -> x.next(cursor), "next " + cursor);
            Check.dueThrow(due, () -> x.previous(cursor), "previous " + cursor);
            Check.dueThrow(due, () -> x.seek(cursor, 0), "seek " + cursor);
            Check.dueThrow(due, () -> x.removeAt(cursor), "removeAt " + cursor);
            Check.dueThrow(due, () -> x.close(cursor), "close " + cursor);
        }
    }

    private static void orderOfExceptions() {
        BurstTrie x = map();
        Check.dueThrow(IndexOutOfBoundsException.class, () -> x.open(9, 1), "open: the cursor first");
        Check.dueThrow(IndexOutOfBoundsException.class, () -> x.seek(9, 1), "seek: the cursor first");
        Check.dueThrow(IllegalArgumentException.class, () -> x.seek(0, 1), "seek: then the key");
        Check.dueThrow(IllegalStateException.class, () -> x.seek(0, 0), "seek: then the state");
    }
}
