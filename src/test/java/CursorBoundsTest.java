import java.util.NoSuchElementException;
import java.util.function.Consumer;

/** Section 7, promises 19 to 24: cursors at the bounds of their prefix, and when they become invalid. */
public final class CursorBoundsTest {
    private static final Class<? extends Exception> END = NoSuchElementException.class;
    private static final Class<? extends Exception> STATE = IllegalStateException.class;

    public static void main(String[] args) {
        numbers();
        closedAtFirst();
        opened();
        boundsOfPrefix();
        bothEnds();
        sought();
        removedAfterNext();
        removedAfterPrevious();
        removedAtEnds();
        removable();
        notRemovable();
        madeInvalid();
        staysValid();
        ownRemovals();
        closing();
        apart();
        nothingCounted();
        Check.finish();
    }

    private static long w(String letters) {
        return Check.word(letters);
    }

    private static BurstTrie map(String... words) {
        BurstTrie x = new BurstTrie();
        Check.putAll(x, words);
        return x;
    }

    private static void next(BurstTrie x, int cursor, String... words) {
        for (String word : words) {
            Check.due(w(word), () -> x.next(cursor), "next " + word);
        }
    }

    private static void previous(BurstTrie x, int cursor, String... words) {
        for (String word : words) {
            Check.due(w(word), () -> x.previous(cursor), "previous " + word);
        }
    }

    private static void atStart(BurstTrie x, int cursor) {
        Check.dueThrow(END, () -> x.previous(cursor), "before the first key");
    }

    private static void atEnd(BurstTrie x, int cursor) {
        Check.dueThrow(END, () -> x.next(cursor), "behind the last key");
    }

    private static void refuses(BurstTrie x, int cursor, String why) {
        Check.dueThrow(STATE, () -> x.next(cursor), "next, " + why);
        Check.dueThrow(STATE, () -> x.previous(cursor), "previous, " + why);
        Check.dueThrow(STATE, () -> x.seek(cursor, 0), "seek, " + why);
        Check.dueThrow(STATE, () -> x.removeAt(cursor), "removeAt, " + why);
    }

    /** "number of the cursor, 0 to 3": what is out of range is refused in RefusedTest. */
    private static void numbers() {
        BurstTrie x = map("a");
        for (int number = 0; number <= 3; number++) {
            int cursor = number;
            Check.due(1, () -> x.open(cursor, 0), "open " + cursor);
            Check.due(1, () -> x.seek(cursor, 0), "seek " + cursor);
            next(x, cursor, "a");
            previous(x, cursor, "a");
            Check.due(true, () -> x.close(cursor), "close " + cursor);
        }
    }

    /** "all closed at first". */
    private static void closedAtFirst() {
        BurstTrie x = map("a");
        for (int cursor = 0; cursor <= 3; cursor++) {
            int number = cursor;
            refuses(x, cursor, "closed at first");
            Check.due(false, () -> x.close(number), "close of a closed one");
        }
    }

    /** "Opens a cursor, in place of what it was. It stands before the first key." */
    private static void opened() {
        BurstTrie x = map("a", "b", "ba");
        Check.due(3, () -> x.open(0, 0), "open over all");
        next(x, 0, "a", "b", "ba");
        Check.due(2, () -> x.open(0, w("b")), "open again");
        atStart(x, 0);
        next(x, 0, "b", "ba");
        atEnd(x, 0);
        Check.due(3, () -> x.open(0, 0), "open with the first prefix");
        atStart(x, 0);
        Check.due(0, () -> x.open(0, w("bb")), "open over no keys");
        atStart(x, 0);
        atEnd(x, 0);
        Check.due(0, () -> x.seek(0, w("a")), "seek among no keys");
        Check.due(0, () -> new BurstTrie().open(0, 0), "open in an empty map");
    }

    /** "a place among the keys that have this prefix": the neighbours on both sides do not. */
    private static void boundsOfPrefix() {
        BurstTrie x = map("", "a", "az", "b", "ba", "bzzzzzzzzzzz", "c", "ca");
        Check.due(3, () -> x.open(0, w("b")), "open b");
        atStart(x, 0);
        next(x, 0, "b", "ba", "bzzzzzzzzzzz");
        atEnd(x, 0);
        previous(x, 0, "bzzzzzzzzzzz", "ba", "b");
        atStart(x, 0);
        next(x, 0, "b");
        Check.due(1, () -> x.open(1, w("bzzzzzzzzzzz")), "open with 12 letters");
        next(x, 1, "bzzzzzzzzzzz");
        atEnd(x, 1);
        Check.due(0, () -> x.open(2, w("bb")), "open between keys");
        atStart(x, 2);
        atEnd(x, 2);
        Check.due(8, () -> x.open(3, 0), "open with the empty prefix");
        next(x, 3, "", "a");
    }

    /** A call that throws at an end moves nothing. */
    private static void bothEnds() {
        BurstTrie x = map("a", "b");
        x.open(0, 0);
        for (int round = 0; round < 3; round++) {
            atStart(x, 0);
            atStart(x, 0);
            next(x, 0, "a", "b");
            atEnd(x, 0);
            atEnd(x, 0);
            previous(x, 0, "b", "a");
        }
        next(x, 0, "a");
        previous(x, 0, "a");
        next(x, 0, "a", "b");
        previous(x, 0, "b");
        next(x, 0, "b");
        previous(x, 0, "b");
    }

    private static void seek(BurstTrie x, String key, int behind) {
        Check.due(behind, () -> x.seek(0, w(key)), "seek " + key);
    }

    /** "directly before the least key with its prefix that is not less than a key". */
    private static void sought() {
        BurstTrie x = map("a", "bb", "bd", "bdd", "bf", "c");
        x.open(0, w("b"));
        String[] keys = {"", "a", "b", "ba", "bb", "bba", "bc", "bd", "bda", "bdd", "be", "bf", "bg", "bzzzzzzzzzzz",
            "c", "zzzzzzzzzzzz"};
        int[] behind = {4, 4, 4, 4, 4, 3, 3, 3, 2, 2, 1, 1, 0, 0, 0, 0};
        String[] order = {"bb", "bd", "bdd", "bf"};
        for (int i = 0; i < keys.length; i++) {
            seek(x, keys[i], behind[i]);
            if (behind[i] == 0) {
                atEnd(x, 0);
            } else {
                next(x, 0, order[4 - behind[i]]);
            }
            seek(x, keys[i], behind[i]);
            if (behind[i] == 4) {
                atStart(x, 0);
            } else {
                previous(x, 0, order[3 - behind[i]]);
            }
        }
    }

    /** "The cursor stands where this key was." */
    private static void removedAfterNext() {
        BurstTrie x = map("a", "bb", "ccc", "dddd");
        x.open(0, 0);
        next(x, 0, "a", "bb");
        Check.due(2, () -> x.removeAt(0), "removeAt");
        previous(x, 0, "a");
        next(x, 0, "a", "ccc", "dddd");
        x.seek(0, w("c"));
        next(x, 0, "ccc");
        Check.due(3, () -> x.removeAt(0), "removeAt");
        next(x, 0, "dddd");
        atEnd(x, 0);
    }

    private static void removedAfterPrevious() {
        BurstTrie x = map("a", "bb", "ccc", "dddd");
        x.open(0, 0);
        x.seek(0, w("d"));
        previous(x, 0, "ccc");
        Check.due(3, () -> x.removeAt(0), "removeAt");
        next(x, 0, "dddd");
        previous(x, 0, "dddd", "bb");
        Check.due(2, () -> x.removeAt(0), "removeAt");
        previous(x, 0, "a");
        atStart(x, 0);
        next(x, 0, "a", "dddd");
        previous(x, 0, "dddd");
        Check.due(4, () -> x.removeAt(0), "removeAt of the key that both calls passed");
        atEnd(x, 0);
        previous(x, 0, "a");
    }

    /** The first, the last and the only key; what has not the prefix stays. */
    private static void removedAtEnds() {
        BurstTrie x = map("a", "b", "bb", "bbb", "c");
        x.open(0, w("b"));
        next(x, 0, "b");
        Check.due(1, () -> x.removeAt(0), "the first one, after next");
        atStart(x, 0);
        next(x, 0, "bb", "bbb");
        Check.due(3, () -> x.removeAt(0), "the last one, after next");
        atEnd(x, 0);
        previous(x, 0, "bb");
        Check.due(2, () -> x.removeAt(0), "the only one, after previous");
        atStart(x, 0);
        atEnd(x, 0);
        Check.due(0, () -> x.seek(0, w("b")), "nothing behind it");
        Check.due(2, () -> x.size(), "a and c stay");
        BurstTrie y = map("a");
        y.open(3, 0);
        next(y, 3, "a");
        Check.due(1, () -> y.removeAt(3), "the only record of the map");
        Check.due(0, () -> y.size(), "an empty map");
        atStart(y, 3);
        atEnd(y, 3);
    }

    private static BurstTrie afterNext(String... words) {
        BurstTrie x = map("a", "bb", "ccc");
        x.open(0, 0);
        next(x, 0, words);
        return x;
    }

    private static void removes(int value, BurstTrie x, String why) {
        Check.due(value, () -> x.removeAt(0), "removeAt, " + why);
    }

    /** "the key that the latest call of next or previous for this cursor returned". */
    private static void removable() {
        removes(1, afterNext("a"), "after next");
        BurstTrie back = afterNext("a", "bb");
        previous(back, 0, "bb", "a");
        removes(1, back, "after previous");
        BurstTrie end = afterNext("a", "bb", "ccc");
        atEnd(end, 0);
        removes(3, end, "after a next that threw");
        BurstTrie start = afterNext("a");
        previous(start, 0, "a");
        atStart(start, 0);
        removes(1, start, "after a previous that threw");
        BurstTrie noKey = afterNext("a", "bb");
        Check.dueThrow(IllegalArgumentException.class, () -> noKey.seek(0, 1), "seek of no key");
        Check.dueThrow(IllegalArgumentException.class, () -> noKey.open(0, 1), "open with no prefix");
        removes(2, noKey, "after calls that threw");
        BurstTrie others = afterNext("a", "bb");
        others.open(1, 0);
        next(others, 1, "a");
        others.seek(1, w("c"));
        others.close(1);
        Check.due(false, () -> others.close(2), "close of another");
        removes(2, others, "after calls for other cursors");
        BurstTrie values = afterNext("a", "bb");
        values.put(w("bb"), 77);
        values.get(w("a"));
        removes(77, values, "after changes of values");
        BurstTrie bursting = afterNext("a", "bb");
        Check.setRule(bursting, "1");
        bursting.get(w("ccc"));
        removes(2, bursting, "after a burst");
        next(bursting, 0, "ccc");
        removes(3, bursting, "after another next");
    }

    /** "There must be such a call since the cursor was opened, and no other call of removeAt or seek". */
    private static void notRemovable() {
        BurstTrie x = map("a", "bb", "ccc", "dddd");
        x.open(0, 0);
        Check.dueThrow(STATE, () -> x.removeAt(0), "removeAt after open");
        atStart(x, 0);
        Check.dueThrow(STATE, () -> x.removeAt(0), "removeAt after a call that threw");
        next(x, 0, "a");
        x.seek(0, w("bb"));
        Check.dueThrow(STATE, () -> x.removeAt(0), "removeAt after seek");
        next(x, 0, "bb");
        removes(2, x, "after next");
        Check.dueThrow(STATE, () -> x.removeAt(0), "removeAt after removeAt");
        next(x, 0, "ccc");
        x.open(0, 0);
        Check.dueThrow(STATE, () -> x.removeAt(0), "removeAt after open again");
        next(x, 0, "a");
        x.close(0);
        x.open(0, 0);
        Check.dueThrow(STATE, () -> x.removeAt(0), "removeAt after close and open");
        x.open(1, 0);
        next(x, 1, "a");
        Check.dueThrow(STATE, () -> x.removeAt(0), "removeAt after next of another");
        Check.due(3, () -> x.size(), "nothing was removed");
    }

    private static BurstTrie twoOpen() {
        BurstTrie x = map("a", "bb", "ccc");
        x.save(0);
        x.open(0, 0);
        x.open(1, 0);
        x.next(0);
        x.next(1);
        return x;
    }

    private static void invalid(Consumer<BurstTrie> action, String why) {
        BurstTrie x = twoOpen();
        action.accept(x);
        refuses(x, 0, why);
        Check.due(true, () -> x.close(0), "an invalid cursor is open, " + why);
        refuses(x, 0, "closed, " + why);
        BurstTrie y = twoOpen();
        action.accept(y);
        int size = y.size();
        Check.due(size, () -> y.open(0, 0), "open after " + why);
        Check.due(y.keyAt(0), () -> y.next(0), "next after open, " + why);
    }

    /** "when a record is added to the map or removed from it in any other way ..., and by restore". */
    private static void madeInvalid() {
        invalid(x -> x.put(w("d"), 1), "a new record by put");
        invalid(x -> x.add(w("d"), 1), "a new record by add");
        invalid(x -> x.remove(w("ccc")), "a removed record");
        invalid(x -> x.remove(w("a")), "the record that it has passed removed");
        invalid(x -> {
            x.remove(w("bb"));
            x.put(w("bb"), 2);
        }, "a record removed and put again");
        invalid(x -> x.removeAt(1), "a record removed by another cursor");
        invalid(x -> x.restore(0), "restore of the same records");
        BurstTrie x = map("a", "b");
        x.open(0, w("a"));
        x.put(w("c"), 1);
        refuses(x, 0, "a new record without its prefix");
        x.open(0, w("q"));
        x.remove(w("c"));
        refuses(x, 0, "a removed record, no key has its prefix");
    }

    private static void valid(Consumer<BurstTrie> action, String why) {
        BurstTrie x = twoOpen();
        Check.answer(() -> {
            action.accept(x);
            return null;
        });
        previous(x, 0, "a");
        next(x, 0, "a", "bb");
        Check.due(2, () -> x.removeAt(0), "removeAt after " + why);
    }

    /** "changes of values, frequencies and structure do not matter"; nor does what is refused. */
    private static void staysValid() {
        valid(x -> x.put(w("a"), 9), "put of a present key");
        valid(x -> x.add(w("a"), 9), "add to a present key");
        valid(x -> x.get(w("ccc")), "get");
        valid(x -> x.get(w("d")), "get that throws");
        valid(x -> x.remove(w("d")), "remove that throws");
        valid(x -> x.put(1, 1), "put of no key");
        valid(x -> x.add(w("a"), Integer.MAX_VALUE), "add that throws");
        valid(x -> x.restore(1), "restore of nothing");
        valid(x -> x.restore(2), "restore of no slot");
        valid(x -> x.removeAt(2), "removeAt of a closed one");
        valid(x -> {
            x.seek(1, 0);
            x.removeAt(1);
        }, "removeAt without a key");
        valid(x -> x.save(0), "save");
        valid(x -> x.setLimits(1, 0, 0), "setLimits");
        valid(x -> x.close(1), "close of another");
        valid(x -> x.open(1, w("b")), "open of another");
        valid(x -> {
            Check.setRule(x, "1");
            x.get(w("ccc"));
        }, "a burst");
    }

    /** "in any other way than by this cursor": its own removals, with all that they change. */
    private static void ownRemovals() {
        BurstTrie x = new BurstTrie();
        x.setLimits(2, 3, 2);
        Check.putAll(x, "aa", "ab", "b", "c", "ca", "d", "e", "f", "g");
        x.open(0, 0);
        x.open(1, w("c"));
        String[] order = {"aa", "ab", "b", "c", "ca", "d", "e", "f", "g"};
        for (String word : order) {
            next(x, 0, word);
            Check.due(word.length(), () -> x.removeAt(0), "removeAt " + word);
            atStart(x, 0);
        }
        atEnd(x, 0);
        refuses(x, 1, "the other one");
        BurstTrie y = map("a", "b", "c");
        y.open(2, 0);
        next(y, 2, "a");
        y.removeAt(2);
        y.put(w("b"), 2);
        next(y, 2, "b");
        y.put(w("d"), 2);
        refuses(y, 2, "valid after its own removal, but not after a new record");
    }

    /** "Returns whether it was open (an invalid cursor is open)." */
    private static void closing() {
        BurstTrie x = map("a");
        Check.due(false, () -> x.close(0), "a closed one");
        x.open(0, 0);
        Check.due(true, () -> x.close(0), "an open one");
        Check.due(false, () -> x.close(0), "closed again");
        x.open(0, 0);
        x.save(0);
        x.restore(0);
        Check.due(true, () -> x.close(0), "an invalid one");
        Check.due(false, () -> x.close(0), "closed again");
        x.restore(0);
        Check.due(false, () -> x.close(0), "restore opens nothing");
    }

    /** Four cursors over the same keys go their own ways. */
    private static void apart() {
        BurstTrie x = map("a", "b", "c");
        for (int cursor = 0; cursor <= 3; cursor++) {
            x.open(cursor, 0);
        }
        next(x, 1, "a");
        next(x, 2, "a", "b");
        next(x, 3, "a", "b", "c");
        atStart(x, 0);
        previous(x, 1, "a");
        next(x, 2, "c");
        atEnd(x, 3);
        next(x, 0, "a");
        previous(x, 2, "c");
    }

    /** Going about is no access; only removeAt is one. */
    private static void nothingCounted() {
        BurstTrie x = map("c", "a", "b", "ab");
        Check.setRule(x, "1");
        Object before = View.of(x);
        Check.due(4, () -> x.open(0, 0), "open");
        next(x, 0, "a", "ab", "b");
        previous(x, 0, "b");
        Check.due(1, () -> x.seek(0, w("c")), "seek");
        next(x, 0, "c");
        atEnd(x, 0);
        Check.due(true, () -> x.close(0), "close");
        Check.due(before, () -> View.of(x), "all answers are as before");
        x.open(0, 0);
        x.next(0);
        x.removeAt(0);
        Check.due(5, () -> x.container(0, 1), "removeAt is an access");
        Check.due(1, () -> x.container(0, 2), "and a hit");
    }
}
