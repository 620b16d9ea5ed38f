import java.util.ArrayList;
import java.util.Comparator;
import java.util.List;
import java.util.NoSuchElementException;
import java.util.TreeMap;

/** The document told once more, in the plainest form and on Strings, to compare BurstTrie with. */
final class Model {
    static final class Rec {
        final String key;
        int value;
        int frequency;

        Rec(String key, int value, int frequency) {
            this.key = key;
            this.value = value;
            this.frequency = frequency;
        }
    }

    /** A tree that is never changed: each change makes a new one. */
    record Bst(Rec rec, Bst left, Bst right) {
        static Bst with(Bst tree, Rec rec) {
            if (tree == null) {
                return new Bst(rec, null, null);
            }
            return rec.key.compareTo(tree.rec.key) < 0
                    ? new Bst(tree.rec, with(tree.left, rec), tree.right)
                    : new Bst(tree.rec, tree.left, with(tree.right, rec));
        }

        static Bst without(Bst tree, String key) {
            int order = key.compareTo(tree.rec.key);
            if (order < 0) {
                return new Bst(tree.rec, without(tree.left, key), tree.right);
            }
            if (order > 0) {
                return new Bst(tree.rec, tree.left, without(tree.right, key));
            }
            if (tree.left == null || tree.right == null) {
                return tree.left == null ? tree.right : tree.left;
            }
            Bst lowest = tree.right;
            while (lowest.left != null) {
                lowest = lowest.left;
            }
            return new Bst(lowest.rec, tree.left, without(tree.right, lowest.rec.key));
        }

        static void preorder(Bst tree, List<Rec> into) {
            if (tree != null) {
                into.add(tree.rec);
                preorder(tree.left, into);
                preorder(tree.right, into);
            }
        }
    }

    static final class Node {
        final String prefix;
        int kind = 2;
        Rec own;
        final TreeMap<Character, Node> children = new TreeMap<>();
        List<Rec> list = new ArrayList<>();
        Bst tree;
        int accesses;
        int hits;
        int comparisons;

        Node(String prefix) {
            this.prefix = prefix;
        }

        int depth() {
            return prefix.length();
        }

        List<Rec> stored() {
            if (kind == 2) {
                return list;
            }
            List<Rec> preorder = new ArrayList<>();
            Bst.preorder(tree, preorder);
            return preorder;
        }

        int comparisonsFor(String key) {
            int compared = 0;
            if (kind == 2) {
                for (Rec rec : list) {
                    compared++;
                    if (rec.key.equals(key)) {
                        break;
                    }
                }
                return compared;
            }
            for (Bst t = tree; t != null; t = key.compareTo(t.rec.key) < 0 ? t.left : t.right) {
                compared++;
                if (t.rec.key.equals(key)) {
                    break;
                }
            }
            return compared;
        }
    }

    private static final class Cursor {
        List<String> keys;
        int place;
        String latest;
        boolean valid;
    }

    private static final class Saved {
        Node root;
        int[] limits;
        long[] counters;
        RuleModel rule;
    }

    Node root = new Node("");
    /** T, L and C. */
    int[] limits = {6, 3, 2};
    /** As counter numbers them, from 4 to 8. */
    long[] counters = new long[9];
    RuleModel rule = RuleModel.read("size > 8");
    String text = "";
    int errorPosition = -1;
    private final Cursor[] cursors = new Cursor[4];
    private final Saved[] saved = new Saved[2];

    // ---- settings

    int append(int... fours) {
        if (text.length() + 20 > 200) {
            throw new IllegalStateException();
        }
        StringBuilder longer = new StringBuilder(text);
        for (int four : fours) {
            for (int shift = 24; shift >= 0; shift -= 8) {
                longer.append((char) (four >>> shift & 255));
            }
        }
        text = longer.toString();
        return text.length();
    }

    int setRule(int length) {
        if (length < 0 || length > text.length()) {
            throw new IllegalArgumentException();
        }
        String read = text.substring(0, length);
        text = "";
        try {
            rule = RuleModel.read(read);
            errorPosition = -1;
            return 0;
        } catch (RuleModel.Fault fault) {
            errorPosition = fault.position;
            return fault.code;
        }
    }

    int setLimits(int tree, int list, int collapse) {
        if (tree < 1 || tree > 20 || list < 0 || list > 20 || collapse < 0 || collapse > 20) {
            throw new IllegalArgumentException();
        }
        limits = new int[] {tree, list, collapse};
        return 0;
    }

    // ---- the trie

    /** The words of the keys of a map; every public method below takes longs as BurstTrie does. */
    static String wordOf(long key) {
        StringBuilder word = new StringBuilder();
        if (key >>> 60 != 0) {
            throw new IllegalArgumentException();
        }
        boolean ended = false;
        for (int i = 11; i >= 0; i--) {
            int letter = (int) (key >>> 5 * i) % 32;
            if (letter < 0) {
                letter += 32;
            }
            if (letter > 26 || letter > 0 && ended) {
                throw new IllegalArgumentException();
            }
            if (letter == 0) {
                ended = true;
            } else {
                word.append((char) (96 + letter));
            }
        }
        return word.toString();
    }

    TreeMap<String, Rec> all() {
        TreeMap<String, Rec> all = new TreeMap<>();
        collect(root, all);
        return all;
    }

    private static void collect(Node node, TreeMap<String, Rec> into) {
        if (node.kind == 1) {
            if (node.own != null) {
                into.put(node.own.key, node.own);
            }
            for (Node child : node.children.values()) {
                collect(child, into);
            }
        } else {
            for (Rec rec : node.stored()) {
                into.put(rec.key, rec);
            }
        }
    }

    private static TreeMap<String, Rec> withPrefix(TreeMap<String, Rec> all, String prefix) {
        TreeMap<String, Rec> some = new TreeMap<>(all);
        some.keySet().removeIf(key -> !key.startsWith(prefix));
        return some;
    }

    /** The nodes from the root down, as far as the letters lead. */
    private List<Node> way(String key) {
        List<Node> way = new ArrayList<>();
        Node node = root;
        while (node != null) {
            way.add(node);
            boolean goesOn = node.kind == 1 && key.length() > node.depth();
            node = goesOn ? node.children.get(key.charAt(node.depth())) : null;
        }
        return way;
    }

    private Node last(String key) {
        List<Node> way = way(key);
        return way.get(way.size() - 1);
    }

    private Rec access(String key) {
        Node node = last(key);
        if (node.kind == 1) {
            return node.depth() == key.length() ? node.own : null;
        }
        int compared = node.comparisonsFor(key);
        node.accesses++;
        node.comparisons += compared;
        counters[4] += compared;
        for (Rec rec : node.stored()) {
            if (rec.key.equals(key)) {
                node.hits++;
                if (node.kind == 2) {
                    node.list.remove(rec);
                    node.list.add(0, rec);
                }
                return rec;
            }
        }
        return null;
    }

    private void toTreeIfLong(Node node) {
        if (node.kind == 2 && node.list.size() > limits[0]) {
            node.kind = 3;
            node.tree = null;
            for (Rec rec : node.list) {
                node.tree = Bst.with(node.tree, rec);
            }
            node.list = new ArrayList<>();
            counters[6]++;
        }
    }

    private void insert(Rec rec) {
        Node node = last(rec.key);
        if (node.kind == 1 && node.depth() == rec.key.length()) {
            node.own = rec;
        } else if (node.kind == 1) {
            Node child = new Node(rec.key.substring(0, node.depth() + 1));
            child.list.add(rec);
            child.accesses = 1;
            node.children.put(rec.key.charAt(node.depth()), child);
        } else if (node.kind == 2) {
            node.list.add(0, rec);
            toTreeIfLong(node);
        } else {
            node.tree = Bst.with(node.tree, rec);
        }
    }

    boolean holds(Node node) {
        int[] names = {node.stored().size(), node.accesses, node.hits, node.accesses - node.hits,
            node.comparisons, node.depth()};
        return rule.value(names) != 0;
    }

    private void burstIfDue(String key) {
        Node node = last(key);
        if (node.kind == 1 || node.stored().size() < 2 || !holds(node)) {
            return;
        }
        List<Rec> recs = new ArrayList<>(node.stored());
        if (node.kind == 3) {
            recs.sort(Comparator.comparing(rec -> rec.key));
        }
        node.kind = 1;
        node.list = new ArrayList<>();
        node.tree = null;
        for (Rec rec : recs) {
            if (rec.key.equals(node.prefix)) {
                node.own = rec;
            } else {
                char letter = rec.key.charAt(node.depth());
                node.children.computeIfAbsent(letter, l -> new Node(node.prefix + l)).list.add(rec);
            }
        }
        for (Node child : node.children.values()) {
            toTreeIfLong(child);
        }
        counters[5]++;
    }

    private void takeOut(Rec rec) {
        List<Node> way = way(rec.key);
        Node node = way.get(way.size() - 1);
        if (node.kind == 1) {
            node.own = null;
        } else if (node.kind == 2) {
            node.list.remove(rec);
        } else {
            node.tree = Bst.without(node.tree, rec.key);
            int left = node.stored().size();
            if (left >= 1 && left < limits[1]) {
                node.list = new ArrayList<>(inOrder(node));
                node.tree = null;
                node.kind = 2;
                counters[7]++;
            }
        }
        if (node.kind != 1 && node.stored().isEmpty()) {
            detach(way, way.size() - 1);
        }
        for (int i = way.size() - 1; i >= 0; i--) {
            if (way.get(i).kind == 1) {
                collapseIfDue(way, i);
            }
        }
    }

    private static List<Rec> inOrder(Node node) {
        TreeMap<String, Rec> below = new TreeMap<>();
        collect(node, below);
        return new ArrayList<>(below.values());
    }

    private void detach(List<Node> way, int place) {
        if (place == 0) {
            root = new Node("");
        } else {
            Node node = way.get(place);
            way.get(place - 1).children.remove(node.prefix.charAt(node.depth() - 1));
        }
    }

    private void collapseIfDue(List<Node> way, int place) {
        Node node = way.get(place);
        List<Rec> below = inOrder(node);
        if (below.size() > limits[2]) {
            return;
        }
        counters[8]++;
        if (below.isEmpty()) {
            detach(way, place);
            return;
        }
        node.kind = 2;
        node.own = null;
        node.children.clear();
        node.list = below;
        node.accesses = 0;
        node.hits = 0;
        node.comparisons = 0;
        toTreeIfLong(node);
    }

    // ---- accesses

    boolean put(long key, int value) {
        return assign(wordOf(key), value);
    }

    private boolean assign(String key, int value) {
        TreeMap<String, Rec> all = all();
        if (!all.containsKey(key) && all.size() == 100) {
            throw new IllegalStateException();
        }
        Rec rec = access(key);
        if (rec == null) {
            insert(new Rec(key, value, 0));
            invalidate(null);
        } else {
            rec.value = value;
            rec.frequency++;
        }
        burstIfDue(key);
        return rec == null;
    }

    int get(long key) {
        String word = wordOf(key);
        Rec rec = access(word);
        if (rec == null) {
            throw new NoSuchElementException();
        }
        rec.frequency++;
        burstIfDue(word);
        return rec.value;
    }

    int add(long key, int amount) {
        String word = wordOf(key);
        Rec rec = all().get(word);
        int value = rec == null ? amount : Math.addExact(rec.value, amount);
        assign(word, value);
        return value;
    }

    int remove(long key) {
        Rec rec = access(wordOf(key));
        if (rec == null) {
            throw new NoSuchElementException();
        }
        takeOut(rec);
        invalidate(null);
        return rec.value;
    }

    // ---- the sorted map

    int size() {
        return all().size();
    }

    int frequency(long key) {
        Rec rec = all().get(wordOf(key));
        return rec == null ? -1 : rec.frequency;
    }

    private static long keyOf(String word) {
        return word == null ? -1 : Check.word(word);
    }

    long lower(long key) {
        return keyOf(all().lowerKey(wordOf(key)));
    }

    long ceiling(long key) {
        return keyOf(all().ceilingKey(wordOf(key)));
    }

    long keyAt(int index) {
        return pick(new ArrayList<>(all().values()), index);
    }

    private static long pick(List<Rec> recs, int index) {
        if (index < 0 || index >= recs.size()) {
            throw new IndexOutOfBoundsException();
        }
        return keyOf(recs.get(index).key);
    }

    int prefixCount(long prefix) {
        return withPrefix(all(), wordOf(prefix)).size();
    }

    long longestPrefix(long word) {
        String letters = wordOf(word);
        String longest = null;
        for (String key : all().keySet()) {
            if (letters.startsWith(key)) {
                longest = key;
            }
        }
        return keyOf(longest);
    }

    long mostFrequent(int index) {
        List<Rec> recs = new ArrayList<>(all().values());
        recs.sort(Comparator.comparing((Rec rec) -> -rec.frequency).thenComparing(rec -> rec.key));
        return pick(recs, index);
    }

    long sum(long from, long to) {
        String first = wordOf(from);
        String end = wordOf(to);
        long sum = 0;
        for (Rec rec : all().values()) {
            if (rec.key.compareTo(first) >= 0 && rec.key.compareTo(end) < 0) {
                sum += rec.value;
            }
        }
        return sum;
    }

    // ---- cursors

    private void invalidate(Cursor kept) {
        for (Cursor cursor : cursors) {
            if (cursor != null && cursor != kept) {
                cursor.valid = false;
            }
        }
    }

    private Cursor cursor(int number) {
        if (number < 0 || number > 3) {
            throw new IndexOutOfBoundsException();
        }
        return cursors[number];
    }

    private Cursor valid(int number) {
        Cursor cursor = cursor(number);
        if (cursor == null || !cursor.valid) {
            throw new IllegalStateException();
        }
        return cursor;
    }

    int open(int number, long prefix) {
        cursor(number);
        Cursor cursor = new Cursor();
        cursor.keys = new ArrayList<>(withPrefix(all(), wordOf(prefix)).keySet());
        cursor.valid = true;
        cursors[number] = cursor;
        return cursor.keys.size();
    }

    long next(int number) {
        Cursor cursor = valid(number);
        if (cursor.place == cursor.keys.size()) {
            throw new NoSuchElementException();
        }
        cursor.latest = cursor.keys.get(cursor.place++);
        return keyOf(cursor.latest);
    }

    long previous(int number) {
        Cursor cursor = valid(number);
        if (cursor.place == 0) {
            throw new NoSuchElementException();
        }
        cursor.latest = cursor.keys.get(--cursor.place);
        return keyOf(cursor.latest);
    }

    int seek(int number, long key) {
        cursor(number);
        String word = wordOf(key);
        Cursor cursor = valid(number);
        cursor.latest = null;
        cursor.place = 0;
        while (cursor.place < cursor.keys.size() && cursor.keys.get(cursor.place).compareTo(word) < 0) {
            cursor.place++;
        }
        return cursor.keys.size() - cursor.place;
    }

    int removeAt(int number) {
        Cursor cursor = valid(number);
        if (cursor.latest == null) {
            throw new IllegalStateException();
        }
        Rec rec = access(cursor.latest);
        takeOut(rec);
        cursor.place = cursor.keys.indexOf(cursor.latest);
        cursor.keys.remove(cursor.place);
        cursor.latest = null;
        invalidate(cursor);
        return rec.value;
    }

    boolean close(int number) {
        boolean wasOpen = cursor(number) != null;
        cursors[number] = null;
        return wasOpen;
    }

    // ---- structure

    private Node standingFor(String prefix) {
        Node node = last(prefix);
        return node.prefix.equals(prefix) ? node : null;
    }

    int kind(long prefix) {
        Node node = standingFor(wordOf(prefix));
        return node == null ? 0 : node.kind;
    }

    private Node containerFor(String prefix) {
        Node node = standingFor(prefix);
        if (node == null || node.kind == 1) {
            throw new NoSuchElementException();
        }
        return node;
    }

    int container(long prefix, int what) {
        String word = wordOf(prefix);
        if (what < 0 || what > 5) {
            throw new IllegalArgumentException();
        }
        Node node = containerFor(word);
        int greatest = 0;
        for (Rec rec : node.stored()) {
            greatest = Math.max(greatest, node.comparisonsFor(rec.key));
        }
        int[] numbers = {node.stored().size(), node.accesses, node.hits, node.comparisons,
            holds(node) ? 1 : 0, greatest};
        return numbers[what];
    }

    long recordAt(long prefix, int index) {
        return pick(containerFor(wordOf(prefix)).stored(), index);
    }

    int cost(long key) {
        String word = wordOf(key);
        if (!all().containsKey(word)) {
            return -1;
        }
        Node node = last(word);
        return node.kind == 1 ? 0 : node.comparisonsFor(word);
    }

    long meanCost(boolean denominator) {
        long costs = 0;
        long frequencies = 0;
        for (Rec rec : all().values()) {
            costs += (long) rec.frequency * cost(Check.word(rec.key));
            frequencies += rec.frequency;
        }
        if (frequencies == 0) {
            return denominator ? 1 : 0;
        }
        for (long d = frequencies; d > 1; d--) {
            if (costs % d == 0 && frequencies % d == 0) {
                costs /= d;
                frequencies /= d;
                break;
            }
        }
        return denominator ? frequencies : costs;
    }

    long counter(int what) {
        if (what < 0 || what > 8) {
            throw new IllegalArgumentException();
        }
        if (what >= 4) {
            return counters[what];
        }
        List<Node> nodes = new ArrayList<>();
        gather(root, nodes);
        long counted = 0;
        for (Node node : nodes) {
            if (what == 3) {
                counted = Math.max(counted, node.depth());
            } else if (node.kind == what + 1) {
                counted++;
            }
        }
        return counted;
    }

    private static void gather(Node node, List<Node> into) {
        into.add(node);
        for (Node child : node.children.values()) {
            gather(child, into);
        }
    }

    // ---- saving

    private static Rec copy(Rec rec) {
        return rec == null ? null : new Rec(rec.key, rec.value, rec.frequency);
    }

    private static Bst copy(Bst tree) {
        return tree == null ? null : new Bst(copy(tree.rec), copy(tree.left), copy(tree.right));
    }

    private static Node copy(Node node) {
        Node copy = new Node(node.prefix);
        copy.kind = node.kind;
        copy.own = copy(node.own);
        node.children.forEach((letter, child) -> copy.children.put(letter, copy(child)));
        node.list.forEach(rec -> copy.list.add(copy(rec)));
        copy.tree = copy(node.tree);
        copy.accesses = node.accesses;
        copy.hits = node.hits;
        copy.comparisons = node.comparisons;
        return copy;
    }

    int save(int slot) {
        if (slot < 0 || slot > 1) {
            throw new IndexOutOfBoundsException();
        }
        Saved now = new Saved();
        now.root = copy(root);
        now.limits = limits.clone();
        now.counters = counters.clone();
        now.rule = rule;
        saved[slot] = now;
        return 0;
    }

    int restore(int slot) {
        if (slot < 0 || slot > 1) {
            throw new IndexOutOfBoundsException();
        }
        Saved then = saved[slot];
        if (then == null) {
            throw new IllegalStateException();
        }
        root = copy(then.root);
        limits = then.limits.clone();
        counters = then.counters.clone();
        rule = then.rule;
        invalidate(null);
        return size();
    }
}
