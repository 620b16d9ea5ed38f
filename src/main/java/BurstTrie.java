import java.util.NoSuchElementException;

/**
 * A sorted map from words of at most 12 letters to ints, held as a burst trie.
 *
 * <p>All records stand in a row by key, which answers whatever depends on the order alone. Those
 * that no access node owns are linked in the containers of the trie, too, whose structure and costs
 * can be examined.
 */
public final class BurstTrie {
    public static final int NONE = -1;
    public static final int SYNTAX_ERROR = -2;
    public static final int VALUE_ERROR = -3;
    public static final int TOO_DEEP = -4;

    private static final int MOST_RECORDS = 100;
    private static final int MOST_BYTES = 200;
    private static final int BYTES_AT_ONCE = 20;
    private static final int HIGHEST_LIMIT = 20;
    private static final int CURSORS = 4;
    private static final int SLOTS = 2;

    private final byte[] text = new byte[MOST_BYTES];
    private final Cursor[] cursors = new Cursor[CURSORS];
    private final Trie[] saved = new Trie[SLOTS];
    private Trie trie = new Trie(Rule.atFirst());
    private int textLength = 0;
    private int errorPlace = NONE;

    public BurstTrie() {
    }

    // ---- settings

    public int append(int a, int b, int c, int d, int e) throws IllegalStateException {
        if (textLength > MOST_BYTES - BYTES_AT_ONCE) {
            throw new IllegalStateException();
        }
        appendFour(a);
        appendFour(b);
        appendFour(c);
        appendFour(d);
        appendFour(e);
        return textLength;
    }

    private void appendFour(int bytes) {
        for (int shift = 24; shift >= 0; shift -= 8) {
            if (textLength >= 0 && textLength < text.length) {
                text[textLength] = (byte) (bytes >> shift);
                textLength++;
            }
        }
    }

    public int setRule(int length) throws IllegalArgumentException {
        if (length < 0 || length > textLength) {
            throw new IllegalArgumentException();
        }
        RuleReader reader = new RuleReader(text, length);
        reader.read();
        if (reader.error == 0) {
            trie.rule = reader.rule;
        }
        textLength = 0;
        errorPlace = reader.errorPlace;
        return reader.error;
    }

    public int errorPosition() {
        return errorPlace;
    }

    public void setLimits(int tree, int list, int collapse) throws IllegalArgumentException {
        if (tree < 1 || tree > HIGHEST_LIMIT || list < 0 || list > HIGHEST_LIMIT
                || collapse < 0 || collapse > HIGHEST_LIMIT) {
            throw new IllegalArgumentException();
        }
        trie.treeLimit = tree;
        trie.listLimit = list;
        trie.collapseLimit = collapse;
    }

    // ---- accesses

    public boolean put(long key, int value) throws IllegalArgumentException, IllegalStateException {
        requireKey(key);
        return assign(key, value);
    }

    public int get(long key) throws IllegalArgumentException, NoSuchElementException {
        requireKey(key);
        Node node = trie.reached(key);
        Record record = trie.access(key, node);
        if (record == null) {
            throw new NoSuchElementException();
        }
        record.frequency++;
        trie.burstIfDue(node);
        return record.value;
    }

    public int add(long key, int amount)
            throws IllegalArgumentException, ArithmeticException, IllegalStateException {
        requireKey(key);
        Record record = trie.records.find(key);
        long exact = record == null ? amount : (long) record.value + amount;
        int value = (int) exact;
        if (value != exact) {
            throw new ArithmeticException();
        }
        assign(key, value);
        return value;
    }

    public int remove(long key) throws IllegalArgumentException, NoSuchElementException {
        requireKey(key);
        Record record = trie.access(key, trie.reached(key));
        if (record == null) {
            throw new NoSuchElementException();
        }
        trie.takeOut(record);
        invalidateAllBut(null);
        return record.value;
    }

    /** Tells whether a new record was made. */
    private boolean assign(long key, int value) {
        if (trie.records.count >= MOST_RECORDS && trie.records.find(key) == null) {
            throw new IllegalStateException();
        }
        Node node = trie.reached(key);
        Record record = trie.access(key, node);
        if (record == null) {
            trie.insert(new Record(key, value, 0), node);
            invalidateAllBut(null);
        } else {
            record.value = value;
            record.frequency++;
        }
        trie.burstIfDue(node);
        return record == null;
    }

    private static void requireKey(long word) {
        if (!Words.isKey(word)) {
            throw new IllegalArgumentException();
        }
    }

    // ---- the sorted map

    public int size() {
        return trie.records.count;
    }

    public int frequency(long key) throws IllegalArgumentException {
        requireKey(key);
        Record record = trie.records.find(key);
        return record == null ? NONE : record.frequency;
    }

    public long lower(long key) throws IllegalArgumentException {
        requireKey(key);
        return keyOrNone(trie.records.at(trie.records.countBelow(key) - 1));
    }

    public long ceiling(long key) throws IllegalArgumentException {
        requireKey(key);
        return keyOrNone(trie.records.at(trie.records.countBelow(key)));
    }

    private static long keyOrNone(Record record) {
        return record == null ? NONE : record.key;
    }

    public long keyAt(int index) throws IndexOutOfBoundsException {
        Record record = trie.records.at(index);
        if (record == null) {
            throw new IndexOutOfBoundsException();
        }
        return record.key;
    }

    public int prefixCount(long prefix) throws IllegalArgumentException {
        requireKey(prefix);
        return trie.records.countBelow(Words.end(prefix, Words.length(prefix)))
                - trie.records.countBelow(prefix);
    }

    public long longestPrefix(long word) throws IllegalArgumentException {
        requireKey(word);
        for (int length = Words.length(word); length >= 0; length--) {
            long head = Words.head(word, length);
            if (trie.records.find(head) != null) {
                return head;
            }
        }
        return NONE;
    }

    public long mostFrequent(int index) throws IndexOutOfBoundsException {
        Record record = trie.records.byFrequency(index);
        if (record == null) {
            throw new IndexOutOfBoundsException();
        }
        return record.key;
    }

    public long sum(long from, long to) throws IllegalArgumentException {
        requireKey(from);
        requireKey(to);
        return trie.records.sumOfValues(trie.records.countBelow(from), trie.records.countBelow(to));
    }

    // ---- cursors

    public int open(int cursor, long prefix)
            throws IndexOutOfBoundsException, IllegalArgumentException {
        Cursor opened = cursorNumber(cursor);
        requireKey(prefix);
        opened.isOpen = true;
        opened.isValid = true;
        opened.first = trie.records.countBelow(prefix);
        opened.end = trie.records.countBelow(Words.end(prefix, Words.length(prefix)));
        opened.moveTo(opened.first);
        return opened.end - opened.first;
    }

    public long next(int cursor)
            throws IndexOutOfBoundsException, IllegalStateException, NoSuchElementException {
        Cursor moved = validCursor(cursor);
        Record record = moved.place < moved.end ? trie.records.at(moved.place) : null;
        if (record == null) {
            throw new NoSuchElementException();
        }
        moved.place++;
        moved.latest = record;
        return record.key;
    }

    public long previous(int cursor)
            throws IndexOutOfBoundsException, IllegalStateException, NoSuchElementException {
        Cursor moved = validCursor(cursor);
        Record record = moved.place > moved.first ? trie.records.at(moved.place - 1) : null;
        if (record == null) {
            throw new NoSuchElementException();
        }
        moved.place--;
        moved.latest = record;
        return record.key;
    }

    public int seek(int cursor, long key)
            throws IndexOutOfBoundsException, IllegalArgumentException, IllegalStateException {
        cursorNumber(cursor);
        requireKey(key);
        Cursor moved = validCursor(cursor);
        int place = Math.max(moved.first, Math.min(moved.end, trie.records.countBelow(key)));
        moved.moveTo(place);
        return moved.end - place;
    }

    public int removeAt(int cursor) throws IndexOutOfBoundsException, IllegalStateException {
        Cursor remover = validCursor(cursor);
        Record record = remover.latest;
        if (record == null) {
            throw new IllegalStateException();
        }
        trie.access(record.key, trie.reached(record.key));
        trie.takeOut(record);
        invalidateAllBut(remover);
        remover.end--;
        remover.moveTo(trie.records.countBelow(record.key));
        return record.value;
    }

    public boolean close(int cursor) throws IndexOutOfBoundsException {
        Cursor closed = cursorNumber(cursor);
        boolean wasOpen = closed.isOpen;
        closed.isOpen = false;
        return wasOpen;
    }

    private Cursor cursorNumber(int number) {
        if (number < 0 || number >= cursors.length) {
            throw new IndexOutOfBoundsException();
        }
        Cursor cursor = cursors[number];
        if (cursor == null) {
            cursor = new Cursor();
            cursors[number] = cursor;
        }
        return cursor;
    }

    private Cursor validCursor(int number) {
        Cursor cursor = cursorNumber(number);
        if (!cursor.isOpen || !cursor.isValid) {
            throw new IllegalStateException();
        }
        return cursor;
    }

    private void invalidateAllBut(Cursor kept) {
        for (Cursor cursor : cursors) {
            if (cursor != null && cursor != kept) {
                cursor.isValid = false;
            }
        }
    }

    // ---- structure

    public int kind(long prefix) throws IllegalArgumentException {
        requireKey(prefix);
        Node node = trie.standingFor(prefix);
        return node == null ? Node.NOTHING : node.form();
    }

    public int container(long prefix, int what)
            throws IllegalArgumentException, NoSuchElementException {
        requireKey(prefix);
        if (what < 0 || what > 5) {
            throw new IllegalArgumentException();
        }
        Container container = containerFor(prefix);
        switch (what) {
            case 0:
                return container.count;
            case 1:
                return container.accesses;
            case 2:
                return container.hits;
            case 3:
                return container.comparisons;
            case 4:
                return trie.rule.holdsFor(container) ? 1 : 0;
            default:
                return container.greatestCost();
        }
    }

    public long recordAt(long prefix, int index)
            throws IllegalArgumentException, NoSuchElementException, IndexOutOfBoundsException {
        requireKey(prefix);
        Record record = containerFor(prefix).recordNumber(index);
        if (record == null) {
            throw new IndexOutOfBoundsException();
        }
        return record.key;
    }

    private Container containerFor(long prefix) {
        if (trie.standingFor(prefix) instanceof Container container) {
            return container;
        }
        throw new NoSuchElementException();
    }

    public int cost(long key) throws IllegalArgumentException {
        requireKey(key);
        return trie.records.find(key) == null ? NONE : trie.costOf(key);
    }

    public long meanCost(boolean denominator) {
        long costs = 0;
        long frequencies = 0;
        for (int i = 0; i < trie.records.count; i++) {
            Record record = trie.records.at(i);
            if (record != null && record.frequency != 0) {
                costs += (long) record.frequency * trie.costOf(record.key);
                frequencies += record.frequency;
            }
        }
        long divisor = greatestCommonDivisor(costs, frequencies);
        if (divisor == 0) {
            return denominator ? 1 : 0;
        }
        return (denominator ? frequencies : costs) / divisor;
    }

    private static long greatestCommonDivisor(long a, long b) {
        long greater = a;
        long less = b;
        // Two longs need fewer than 100 divisions.
        for (int i = 0; i < 100 && less != 0; i++) {
            long rest = greater % less;
            greater = less;
            less = rest;
        }
        return greater;
    }

    public long counter(int what) throws IllegalArgumentException {
        switch (what) {
            case 0:
                return trie.countOf(Node.ACCESS_NODE);
            case 1:
                return trie.countOf(Node.LIST);
            case 2:
                return trie.countOf(Node.TREE);
            case 3:
                return trie.greatestDepth();
            case 4:
                return trie.comparisons;
            case 5:
                return trie.bursts;
            case 6:
                return trie.listsToTrees;
            case 7:
                return trie.treesToLists;
            case 8:
                return trie.collapses;
            default:
                throw new IllegalArgumentException();
        }
    }

    // ---- saving

    public void save(int slot) throws IndexOutOfBoundsException {
        requireSlot(slot);
        if (slot >= 0 && slot < saved.length) {
            saved[slot] = trie.duplicate();
        }
    }

    public int restore(int slot) throws IndexOutOfBoundsException, IllegalStateException {
        requireSlot(slot);
        Trie kept = slot >= 0 && slot < saved.length ? saved[slot] : null;
        if (kept == null) {
            throw new IllegalStateException();
        }
        trie = kept.duplicate();
        invalidateAllBut(null);
        return trie.records.count;
    }

    private static void requireSlot(int slot) {
        if (slot < 0 || slot >= SLOTS) {
            throw new IndexOutOfBoundsException();
        }
    }

    /** What a long of 12 groups of 5 bits says as a word. */
    private static final class Words {
        static final int LONGEST = 12;
        private static final int HIGHEST_LETTER = 26;
        private static final int LETTER_BITS = 5;
        private static final int WORD_BITS = LONGEST * LETTER_BITS;

        static boolean isKey(long word) {
            if (word < 0 || word >= (1L << WORD_BITS)) {
                return false;
            }
            boolean ended = false;
            for (int place = 0; place < LONGEST; place++) {
                int letter = letter(word, place);
                if (letter > HIGHEST_LETTER || (ended && letter != 0)) {
                    return false;
                }
                ended = letter == 0;
            }
            return true;
        }

        /** The letter at a place from 0, 0 behind the word. */
        static int letter(long word, int place) {
            return (int) (word >> (WORD_BITS - LETTER_BITS * (place + 1))) & 31;
        }

        static int length(long word) {
            int length = 0;
            while (length < LONGEST && letter(word, length) != 0) {
                length++;
            }
            return length;
        }

        static long head(long word, int length) {
            return word & (-1L << (WORD_BITS - LETTER_BITS * length));
        }

        /** The least long that is above all words with a prefix of this length. */
        static long end(long prefix, int length) {
            return prefix + (1L << (WORD_BITS - LETTER_BITS * length));
        }
    }

    private static final class Record {
        final long key;
        int value;
        int frequency;
        /** The record behind this one, in a list. */
        Record next;
        /** The subtrees, in a tree. */
        Record left;
        Record right;

        Record(long key, int value, int frequency) {
            this.key = key;
            this.value = value;
            this.frequency = frequency;
        }
    }

    /** All records of the map in the order of their keys. */
    private static final class SortedRecords {
        private final Record[] row = new Record[MOST_RECORDS];
        int count;

        /** The record at a place; null if there is none. */
        Record at(int place) {
            return place >= 0 && place < count && place < row.length ? row[place] : null;
        }

        int countBelow(long key) {
            int low = 0;
            int high = count;
            for (int i = 0; i < MOST_RECORDS && low < high; i++) {
                int middle = (low + high) / 2;
                Record record = at(middle);
                if (record != null && record.key < key) {
                    low = middle + 1;
                } else {
                    high = middle;
                }
            }
            return low;
        }

        Record find(long key) {
            Record record = at(countBelow(key));
            return record != null && record.key == key ? record : null;
        }

        void insert(Record record) {
            if (count >= row.length) {
                return;
            }
            int place = countBelow(record.key);
            for (int i = count; i > place && i > 0 && i < row.length; i--) {
                row[i] = row[i - 1];
            }
            if (place >= 0 && place < row.length) {
                row[place] = record;
                count++;
            }
        }

        void takeOut(Record record) {
            if (find(record.key) == null) {
                return;
            }
            count--;
            for (int i = countBelow(record.key); i >= 0 && i < count && i + 1 < row.length; i++) {
                row[i] = row[i + 1];
            }
        }

        long sumOfValues(int from, int to) {
            long sum = 0;
            for (int i = from; i < to; i++) {
                Record record = at(i);
                if (record != null) {
                    sum += record.value;
                }
            }
            return sum;
        }

        /** The record at a place of the order by descending frequency; null if there is none. */
        Record byFrequency(int place) {
            for (int i = 0; i < count; i++) {
                Record record = at(i);
                if (record != null && countMoreFrequent(record) == place) {
                    return record;
                }
            }
            return null;
        }

        /** How many records stand before one in the order by descending frequency. */
        private int countMoreFrequent(Record record) {
            int before = 0;
            for (int i = 0; i < count; i++) {
                Record other = at(i);
                if (other != null && (other.frequency > record.frequency
                        || (other.frequency == record.frequency && other.key < record.key))) {
                    before++;
                }
            }
            return before;
        }

        void copyFrom(SortedRecords other) {
            count = 0;
            for (int i = 0; i < other.count && i < row.length; i++) {
                Record record = other.at(i);
                if (record != null) {
                    row[i] = new Record(record.key, record.value, record.frequency);
                    count++;
                }
            }
        }
    }

    /** What stands for a prefix. */
    private abstract static class Node {
        static final int NOTHING = 0;
        static final int ACCESS_NODE = 1;
        static final int LIST = 2;
        static final int TREE = 3;

        final long prefix;
        final int depth;
        /** Null at the root. */
        final AccessNode parent;
        /** Another child of the same parent; these chains have no order. */
        Node sibling;

        Node(long prefix, int depth, AccessNode parent) {
            this.prefix = prefix;
            this.depth = depth;
            this.parent = parent;
        }

        abstract int form();
    }

    /** Its own record, if there is one, is the one of its prefix in the row of all records. */
    private static final class AccessNode extends Node {
        Node firstChild;

        AccessNode(long prefix, int depth, AccessNode parent) {
            super(prefix, depth, parent);
        }

        @Override
        int form() {
            return ACCESS_NODE;
        }

        /** The child for the next letter of a key; null if there is none. */
        Node childFor(long key) {
            int letter = Words.letter(key, depth);
            for (Node child = firstChild; child != null; child = child.sibling) {
                if (Words.letter(child.prefix, depth) == letter) {
                    return child;
                }
            }
            return null;
        }

        void hang(Node child) {
            child.sibling = firstChild;
            firstChild = child;
        }

        void drop(Node dropped) {
            Node before = null;
            Node child = firstChild;
            while (child != null && child != dropped) {
                before = child;
                child = child.sibling;
            }
            if (child == null) {
                return;
            }
            if (before == null) {
                firstChild = child.sibling;
            } else {
                before.sibling = child.sibling;
            }
        }

        /** Hangs a new empty list for the next letter of a key. */
        Container newChildFor(long key) {
            Container child = new Container(Words.head(key, depth + 1), depth + 1, this);
            hang(child);
            return child;
        }

        /** Puts a record of a bursting container in its place below this node. */
        void takeOver(Record record) {
            if (record.key == prefix) {
                return;
            }
            if (childFor(record.key) instanceof Container container) {
                container.takeIn(record);
            } else {
                newChildFor(record.key).takeIn(record);
            }
        }
    }

    private static final class Container extends Node {
        boolean isTree;
        /** The front of the list, or the root of the tree. */
        Record top;
        int count;
        int accesses;
        int hits;
        int comparisons;

        Container(long prefix, int depth, AccessNode parent) {
            super(prefix, depth, parent);
        }

        @Override
        int form() {
            return isTree ? TREE : LIST;
        }

        /** Searches a key, which has this record or none, and tells the comparisons. */
        int search(long key, Record found) {
            int compared = comparisonsFor(key);
            accesses++;
            comparisons += compared;
            if (found != null) {
                hits++;
                if (!isTree) {
                    unlink(found);
                    putInFront(found);
                }
            }
            return compared;
        }

        int comparisonsFor(long key) {
            int compared = 0;
            Record record = top;
            while (record != null) {
                compared++;
                if (record.key == key) {
                    return compared;
                }
                record = isTree ? subtreeFor(key, record) : record.next;
            }
            return compared;
        }

        private static Record subtreeFor(long key, Record record) {
            return key < record.key ? record.left : record.right;
        }

        int greatestCost() {
            int greatest = 0;
            for (Record record = top; record != null; record = recordAfter(record)) {
                greatest = Math.max(greatest, comparisonsFor(record.key));
            }
            return greatest;
        }

        /** The record at a place of the list, or of the tree in preorder; null if there is none. */
        Record recordNumber(int place) {
            if (place < 0 || place >= count) {
                return null;
            }
            Record record = top;
            for (int i = 0; i < place && record != null; i++) {
                record = recordAfter(record);
            }
            return record;
        }

        Record recordAfter(Record record) {
            if (!isTree) {
                return record.next;
            }
            if (record.left != null) {
                return record.left;
            }
            return record.right != null ? record.right : laterSubtree(record);
        }

        /** The right subtree of the lowest record in whose left subtree a record stands. */
        private Record laterSubtree(Record leaf) {
            Record later = null;
            Record record = top;
            while (record != null && record != leaf) {
                if (leaf.key < record.key && record.right != null) {
                    later = record.right;
                }
                record = subtreeFor(leaf.key, record);
            }
            return later;
        }

        void takeIn(Record record) {
            if (isTree) {
                putAsLeaf(record);
            } else {
                putInFront(record);
            }
        }

        private void putInFront(Record record) {
            record.next = top;
            top = record;
            count++;
        }

        private void putAsLeaf(Record leaf) {
            leaf.left = null;
            leaf.right = null;
            Record above = null;
            Record record = top;
            while (record != null) {
                above = record;
                record = subtreeFor(leaf.key, record);
            }
            if (above == null) {
                top = leaf;
            } else if (leaf.key < above.key) {
                above.left = leaf;
            } else {
                above.right = leaf;
            }
            count++;
        }

        void takeOut(Record record) {
            if (isTree) {
                takeFromTree(record);
            } else {
                unlink(record);
            }
        }

        private void unlink(Record unlinked) {
            Record before = null;
            Record record = top;
            while (record != null && record != unlinked) {
                before = record;
                record = record.next;
            }
            if (record == null) {
                return;
            }
            if (before == null) {
                top = record.next;
            } else {
                before.next = record.next;
            }
            count--;
        }

        private void takeFromTree(Record taken) {
            Record above = null;
            Record record = top;
            while (record != null && record != taken) {
                above = record;
                record = subtreeFor(taken.key, record);
            }
            if (record == null) {
                return;
            }
            Record heir = heirOf(record);
            if (above == null) {
                top = heir;
            } else if (above.left == record) {
                above.left = heir;
            } else {
                above.right = heir;
            }
            count--;
        }

        /** What replaces a record of a tree; null if it has no subtree. */
        private static Record heirOf(Record record) {
            if (record.left == null) {
                return record.right;
            }
            if (record.right == null) {
                return record.left;
            }
            Record above = record;
            Record lowest = record.right;
            while (lowest.left != null) {
                above = lowest;
                lowest = lowest.left;
            }
            if (above != record) {
                above.left = lowest.right;
                lowest.right = record.right;
            }
            lowest.left = record.left;
            return lowest;
        }

        void becomeTree() {
            Record record = top;
            becomeEmpty(true);
            while (record != null) {
                Record behind = record.next;
                putAsLeaf(record);
                record = behind;
            }
        }

        /** Makes it the list of the records in a part of the row of all. */
        void becomeList(SortedRecords records, int from, int to) {
            becomeEmpty(false);
            for (int i = to - 1; i >= from; i--) {
                Record record = records.at(i);
                if (record != null) {
                    putInFront(record);
                }
            }
        }

        void reverseList() {
            Record record = top;
            becomeEmpty(false);
            while (record != null) {
                Record behind = record.next;
                putInFront(record);
                record = behind;
            }
        }

        private void becomeEmpty(boolean asTree) {
            isTree = asTree;
            top = null;
            count = 0;
        }

        /** Copies it, with the records of the same keys out of another row. */
        Container duplicate(AccessNode newParent, SortedRecords newRecords) {
            Container copy = new Container(prefix, depth, newParent);
            copy.isTree = isTree;
            copy.accesses = accesses;
            copy.hits = hits;
            copy.comparisons = comparisons;
            // A tree takes its form again when its records come in preorder.
            for (Record record = top; record != null; record = recordAfter(record)) {
                Record twin = newRecords.find(record.key);
                if (twin != null) {
                    copy.takeIn(twin);
                }
            }
            if (!isTree) {
                copy.reverseList();
            }
            return copy;
        }
    }

    /** The map with its structure, its counters, its limits and its rule: all that is saved. */
    private static final class Trie {
        final SortedRecords records = new SortedRecords();
        Node root = new Container(0L, 0, null);
        Rule rule;
        int treeLimit = 6;
        int listLimit = 3;
        int collapseLimit = 2;
        long comparisons;
        int bursts;
        int listsToTrees;
        int treesToLists;
        int collapses;

        Trie(Rule rule) {
            this.rule = rule;
        }

        /** The lowest node on the way of a key. */
        Node reached(long key) {
            int length = Words.length(key);
            Node node = root;
            for (int depth = 0; depth < length; depth++) {
                Node child = node instanceof AccessNode access ? access.childFor(key) : null;
                if (child == null) {
                    return node;
                }
                node = child;
            }
            return node;
        }

        /** The node that stands for a prefix; null if there is none. */
        Node standingFor(long prefix) {
            Node node = reached(prefix);
            return node != null && node.prefix == prefix ? node : null;
        }

        /** Counts an access to a key that reaches a node; answers the record, null if there is none. */
        Record access(long key, Node node) {
            Record record = records.find(key);
            if (node instanceof Container container) {
                comparisons += container.search(key, record);
            }
            return record;
        }

        /** Inserts a new record after the access that reached a node without finding its key. */
        void insert(Record record, Node node) {
            records.insert(record);
            if (node instanceof Container container) {
                container.takeIn(record);
                growIfDue(container);
            } else if (node instanceof AccessNode access && access.prefix != record.key) {
                Container child = access.newChildFor(record.key);
                child.accesses = 1;
                child.takeIn(record);
            }
        }

        private void growIfDue(Container container) {
            if (!container.isTree && container.count > treeLimit) {
                container.becomeTree();
                listsToTrees++;
            }
        }

        void burstIfDue(Node node) {
            if (node instanceof Container container && container.count >= 2
                    && rule.holdsFor(container)) {
                burst(container);
            }
        }

        private void burst(Container container) {
            if (container.isTree) {
                listInOrder(container);
            }
            // From the back on, so that putting in front keeps the order in the new lists.
            container.reverseList();
            AccessNode node = new AccessNode(container.prefix, container.depth, container.parent);
            Record record = container.top;
            while (record != null) {
                Record behind = record.next;
                node.takeOver(record);
                record = behind;
            }
            for (Node child = node.firstChild; child != null; child = child.sibling) {
                if (child instanceof Container list) {
                    growIfDue(list);
                }
            }
            replace(container, node);
            bursts++;
        }

        /** Makes a container the list of all records with its prefix, in the order of the keys. */
        private void listInOrder(Container container) {
            container.becomeList(records, records.countBelow(container.prefix),
                    records.countBelow(Words.end(container.prefix, container.depth)));
        }

        private void replace(Node old, Node replacement) {
            if (old.parent == null) {
                root = replacement;
            } else {
                old.parent.drop(old);
                old.parent.hang(replacement);
            }
        }

        /** Takes a record out after the access that found it. */
        void takeOut(Record record) {
            Node node = reached(record.key);
            records.takeOut(record);
            if (node instanceof Container container) {
                container.takeOut(record);
                shrinkIfDue(container);
                collapseFrom(container.parent);
            } else if (node instanceof AccessNode access) {
                collapseFrom(access);
            }
        }

        private void shrinkIfDue(Container container) {
            if (container.count == 0) {
                removeEmpty(container);
            } else if (container.isTree && container.count < listLimit) {
                listInOrder(container);
                treesToLists++;
            }
        }

        private void removeEmpty(Node node) {
            if (node.parent == null) {
                root = new Container(0L, 0, null);
            } else {
                node.parent.drop(node);
            }
        }

        private void collapseFrom(AccessNode deepest) {
            for (AccessNode node = deepest; node != null; node = node.parent) {
                int below = records.countBelow(Words.end(node.prefix, node.depth))
                        - records.countBelow(node.prefix);
                if (below <= collapseLimit) {
                    collapse(node, below == 0);
                }
            }
        }

        private void collapse(AccessNode node, boolean isEmpty) {
            if (isEmpty) {
                removeEmpty(node);
            } else {
                Container container = new Container(node.prefix, node.depth, node.parent);
                listInOrder(container);
                growIfDue(container);
                replace(node, container);
            }
            collapses++;
        }

        /** The comparisons for the key of a record. */
        int costOf(long key) {
            return reached(key) instanceof Container container ? container.comparisonsFor(key) : 0;
        }

        int countOf(int form) {
            int nodes = 0;
            for (Node node = root; node != null; node = nodeAfter(node)) {
                if (node.form() == form) {
                    nodes++;
                }
            }
            return nodes;
        }

        int greatestDepth() {
            int greatest = 0;
            for (Node node = root; node != null; node = nodeAfter(node)) {
                greatest = Math.max(greatest, node.depth);
            }
            return greatest;
        }

        /** The next node, each before those below it; null behind the last one. */
        private static Node nodeAfter(Node node) {
            if (node instanceof AccessNode access && access.firstChild != null) {
                return access.firstChild;
            }
            Node last = node;
            while (last != null && last.sibling == null) {
                last = last.parent;
            }
            return last == null ? null : last.sibling;
        }

        Trie duplicate() {
            Trie copy = new Trie(rule);
            copy.treeLimit = treeLimit;
            copy.listLimit = listLimit;
            copy.collapseLimit = collapseLimit;
            copy.comparisons = comparisons;
            copy.bursts = bursts;
            copy.listsToTrees = listsToTrees;
            copy.treesToLists = treesToLists;
            copy.collapses = collapses;
            copy.records.copyFrom(records);
            Node newRoot = duplicateNode(root, null, copy.records, 0);
            if (newRoot != null) {
                copy.root = newRoot;
            }
            return copy;
        }

        /** Copies a node and all below it; null for what lies deeper than any word goes. */
        private static Node duplicateNode(
                Node node, AccessNode newParent, SortedRecords newRecords, int level) {
            if (node instanceof Container container) {
                return container.duplicate(newParent, newRecords);
            }
            if (node instanceof AccessNode access && level <= Words.LONGEST) {
                AccessNode copy = new AccessNode(access.prefix, access.depth, newParent);
                for (Node child = access.firstChild; child != null; child = child.sibling) {
                    Node newChild = duplicateNode(child, copy, newRecords, level + 1);
                    if (newChild != null) {
                        copy.hang(newChild);
                    }
                }
                return copy;
            }
            return null;
        }
    }

    private static final class Cursor {
        boolean isOpen;
        boolean isValid;
        /** Its keys lie from first to before end in the row of all records. */
        int first;
        int end;
        /** The number of records in front of it. */
        int place;
        /** The record that removeAt would remove; null if there is none. */
        Record latest;

        /** Moves it without a key that could be removed afterwards. */
        void moveTo(int newPlace) {
            place = newPlace;
            latest = null;
        }
    }

    /** What can stand in a rule text, and in the rule that is read from it. */
    private enum Symbol {
        OR("or", RuleReader.RULE),
        AND("and", RuleReader.CONJUNCTION),
        NOT("not", RuleReader.NO_LINE),
        LESS("<", RuleReader.COMPARISON),
        EQUAL("=", RuleReader.COMPARISON),
        GREATER(">", RuleReader.COMPARISON),
        PLUS("+", RuleReader.SUM),
        MINUS("-", RuleReader.SUM),
        TIMES("*", RuleReader.PRODUCT),
        OVER("/", RuleReader.PRODUCT),
        SIZE("size", RuleReader.ATOM),
        ACCESSES("accesses", RuleReader.ATOM),
        HITS("hits", RuleReader.ATOM),
        MISSES("misses", RuleReader.ATOM),
        COMPARISONS("comparisons", RuleReader.ATOM),
        DEPTH("depth", RuleReader.ATOM),
        OPENING("(", RuleReader.NO_LINE),
        CLOSING(")", RuleReader.NO_LINE),
        NUMBER("", RuleReader.NO_LINE),
        END("", RuleReader.NO_LINE),
        UNKNOWN("", RuleReader.NO_LINE);

        private static final Symbol[] ALL = values();

        private final String spelling;
        /** The line of the grammar whose operator it is, or ATOM for a name. */
        final int line;

        Symbol(String spelling, int line) {
            this.spelling = spelling;
            this.line = line;
        }

        static Symbol spelledAs(byte[] text, int from, int to) {
            for (Symbol symbol : ALL) {
                if (symbol != null && symbol.isSpelledAs(text, from, to)) {
                    return symbol;
                }
            }
            return UNKNOWN;
        }

        private boolean isSpelledAs(byte[] text, int from, int to) {
            int length = spelling.length();
            if (length == 0 || length != to - from || from < 0 || to > text.length) {
                return false;
            }
            for (int i = 0; i < length; i++) {
                if (spelling.charAt(i) != text[from + i]) {
                    return false;
                }
            }
            return true;
        }
    }

    /** A burst rule: its operands and operators, each operator behind its operands. */
    private static final class Rule {
        /**
         * Inside each of 5 parentheses, and outside of them, the five lines of the grammar with
         * operators of two operands keep at most one value each, while one more is worked out.
         */
        private static final int MOST_VALUES = 31;

        private final Symbol[] symbols;
        private final int[] numbers;
        private int length;
        private final int[] values = new int[MOST_VALUES];
        private int valueCount;

        Rule(int mostSymbols) {
            int room = Math.max(0, mostSymbols);
            symbols = new Symbol[room];
            numbers = new int[room];
        }

        static Rule atFirst() {
            Rule rule = new Rule(3);
            rule.extend(Symbol.SIZE, 0);
            rule.extend(Symbol.NUMBER, 8);
            rule.extend(Symbol.GREATER, 0);
            return rule;
        }

        void extend(Symbol symbol, int number) {
            if (length >= 0 && length < symbols.length && length < numbers.length) {
                symbols[length] = symbol;
                numbers[length] = number;
                length++;
            }
        }

        boolean holdsFor(Container container) {
            valueCount = 0;
            for (int i = 0; i < length && i < symbols.length && i < numbers.length; i++) {
                Symbol symbol = symbols[i];
                if (symbol == Symbol.NUMBER) {
                    push(numbers[i]);
                } else if (symbol == Symbol.NOT) {
                    push(truth(pop() == 0));
                } else if (symbol != null && symbol.line == RuleReader.ATOM) {
                    push(quantity(symbol, container));
                } else if (symbol != null) {
                    int right = pop();
                    int left = pop();
                    push(result(symbol, left, right));
                }
            }
            return pop() != 0;
        }

        private void push(int value) {
            if (valueCount >= 0 && valueCount < values.length) {
                values[valueCount] = value;
                valueCount++;
            }
        }

        private int pop() {
            if (valueCount < 1 || valueCount > values.length) {
                return 0;
            }
            valueCount--;
            return values[valueCount];
        }

        private static int quantity(Symbol name, Container container) {
            switch (name) {
                case SIZE:
                    return container.count;
                case ACCESSES:
                    return container.accesses;
                case HITS:
                    return container.hits;
                case MISSES:
                    return container.accesses - container.hits;
                case COMPARISONS:
                    return container.comparisons;
                default:
                    return container.depth;
            }
        }

        private static int result(Symbol operator, int left, int right) {
            switch (operator) {
                case OR:
                    return truth(left != 0 || right != 0);
                case AND:
                    return truth(left != 0 && right != 0);
                case LESS:
                    return truth(left < right);
                case EQUAL:
                    return truth(left == right);
                case GREATER:
                    return truth(left > right);
                case PLUS:
                    return left + right;
                case MINUS:
                    return left - right;
                case TIMES:
                    return left * right;
                default:
                    return right == 0 ? 0 : left / right;
            }
        }

        private static int truth(boolean isTrue) {
            return isTrue ? 1 : 0;
        }
    }

    /** Reads a rule text by the grammar; after an error it sees nothing but the end of the text. */
    private static final class RuleReader {
        static final int NO_LINE = -1;
        static final int RULE = 0;
        static final int CONJUNCTION = 1;
        static final int NEGATION = 2;
        static final int COMPARISON = 3;
        static final int SUM = 4;
        static final int PRODUCT = 5;
        static final int ATOM = 6;

        private static final int GREATEST_NUMBER = 100000;
        private static final int DEEPEST = 5;

        private final byte[] text;
        private final int length;
        final Rule rule;
        int error = 0;
        int errorPlace = NONE;
        private int end = 0;
        private Symbol symbol = Symbol.END;
        private int start = 0;
        private int number = 0;
        private int parentheses = 0;

        RuleReader(byte[] text, int length) {
            this.text = text;
            this.length = Math.min(length, text.length);
            this.rule = new Rule(length);
        }

        void read() {
            advance();
            readLine(RULE);
            if (symbol != Symbol.END) {
                fail(SYNTAX_ERROR);
            }
        }

        private void readLine(int line) {
            if (line == NEGATION) {
                readNegation();
            } else if (line >= ATOM) {
                readAtom();
            } else {
                readOperands(line);
            }
        }

        private void readOperands(int line) {
            int most = line == COMPARISON ? 1 : length;
            readLine(line + 1);
            for (int i = 0; i < most && symbol.line == line; i++) {
                Symbol operator = symbol;
                advance();
                readLine(line + 1);
                rule.extend(operator, 0);
            }
        }

        private void readNegation() {
            int nots = 0;
            while (nots < length && symbol == Symbol.NOT) {
                nots++;
                advance();
            }
            readLine(COMPARISON);
            for (int i = 0; i < nots; i++) {
                rule.extend(Symbol.NOT, 0);
            }
        }

        private void readAtom() {
            if (symbol == Symbol.OPENING && parentheses >= DEEPEST) {
                fail(TOO_DEEP);
            } else if (symbol == Symbol.OPENING) {
                readParentheses();
            } else if (symbol == Symbol.NUMBER && number > GREATEST_NUMBER) {
                fail(VALUE_ERROR);
            } else if (symbol == Symbol.NUMBER || symbol.line == ATOM) {
                rule.extend(symbol, number);
                advance();
            } else {
                fail(SYNTAX_ERROR);
            }
        }

        private void readParentheses() {
            parentheses++;
            advance();
            readLine(RULE);
            parentheses--;
            if (symbol == Symbol.CLOSING) {
                advance();
            } else {
                fail(SYNTAX_ERROR);
            }
        }

        /** Reports an error at the present symbol, unless there was one before. */
        private void fail(int code) {
            if (error == 0) {
                error = code;
                errorPlace = start;
            }
            symbol = Symbol.END;
        }

        private void advance() {
            if (error != 0) {
                return;
            }
            start = end;
            while (start < length && byteAt(start) == ' ') {
                start++;
            }
            end = start;
            if (start >= length) {
                symbol = Symbol.END;
            } else if (isDigit(byteAt(start))) {
                symbol = Symbol.NUMBER;
                readNumber();
            } else {
                skipSpelling();
                symbol = Symbol.spelledAs(text, start, end);
            }
        }

        private void readNumber() {
            number = 0;
            while (end < length && isDigit(byteAt(end))) {
                // A number that is out of its range stays just so, however long it is.
                number = Math.min(10 * number + byteAt(end) - '0', GREATEST_NUMBER + 1);
                end++;
            }
        }

        private void skipSpelling() {
            boolean isWord = isLetter(byteAt(start));
            end++;
            while (isWord && end < length && isLetter(byteAt(end))) {
                end++;
            }
        }

        /** The byte at a place, 0 behind the text. */
        private int byteAt(int place) {
            return place >= 0 && place < length && place < text.length ? text[place] : 0;
        }

        private static boolean isDigit(int sign) {
            return sign >= '0' && sign <= '9';
        }

        private static boolean isLetter(int sign) {
            return sign >= 'a' && sign <= 'z';
        }
    }
}
