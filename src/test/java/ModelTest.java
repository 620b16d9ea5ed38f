/** Long runs of calls, each answer of which is compared with the model's. */
public final class ModelTest {
    private static final int RUNS = 250;
    private static final int CALLS = 512;
    private static final String[] RULES = {"size > 8", "1", "0", "size > 3", "size = 2", "hits > misses",
        "comparisons > 3 * accesses", "size > 4 and depth < 3", "accesses - hits * 2 > 5 or size > 12",
        "not (size < 5)", "depth / 2 = 1 or size > 20", "comparisons * 99999 * 99999 < 0",
        "(accesses + 1) / (hits - 2) > 1", "misses"};

    private final Dice dice;
    private final BurstTrie x = new BurstTrie();
    private final Model model = new Model();
    private final String letters;
    private final int longest;
    private final int removals;
    private final boolean isGrowing;
    private final int run;
    private final RuleTexts texts;
    private String name;

    private ModelTest(int run) {
        this.run = run;
        dice = new Dice(run);
        texts = new RuleTexts(dice);
        letters = dice.oneOf(new String[] {"a", "ab", "abc", "az", "abcdefghijklmnopqrstuvwxyz"});
        longest = letters.length() == 1 || dice.oneIn(4) ? 12 : 2 + dice.below(4);
        removals = 1 + dice.below(6);
        isGrowing = dice.oneIn(5);
    }

    public static void main(String[] args) {
        int runs = args.length > 0 ? Integer.parseInt(args[0]) : RUNS;
        for (int run = 0; run < runs; run++) {
            new ModelTest(run).play();
        }
        Check.finish();
    }

    private void play() {
        for (int i = 0; i < CALLS; i++) {
            name = "run " + run + ", call " + i + ": ";
            change();
            examineSome();
            if (i % 64 == 63) {
                examineAll();
            }
        }
    }

    private long key() {
        int kind = dice.below(40);
        if (kind == 0) {
            return dice.oneIn(2) ? dice.anyInt() : (long) dice.anyInt() << 31 ^ dice.anyInt();
        }
        if (kind == 1) {
            return Check.word(word()) ^ 1L << dice.below(64);
        }
        if (kind < 20 && model.size() > 0) {
            return model.keyAt(dice.below(model.size()));
        }
        return Check.word(word());
    }

    private String word() {
        StringBuilder word = new StringBuilder();
        int length = dice.below(longest + 1);
        // Words that begin alike make deep tries.
        boolean alike = dice.oneIn(3);
        for (int i = 0; i < length; i++) {
            word.append(alike && i < longest - 1 ? letters.charAt(0)
                    : letters.charAt(dice.below(letters.length())));
        }
        return word.toString();
    }

    private long prefix() {
        String word = Check.letters(Math.max(0, key()));
        word = word.substring(0, Math.min(12, word.length()));
        return dice.oneIn(30) ? key() : Check.word(word.substring(0, dice.below(word.length() + 1)));
    }

    private void change() {
        long key = key();
        int value = dice.anyInt();
        int kind = dice.below(isGrowing && !dice.oneIn(8) ? 60 : 100);
        if (kind < 30) {
            Check.due(Check.answer(() -> model.put(key, value)), () -> x.put(key, value), name + "put " + key);
        } else if (kind < 45) {
            Check.due(Check.answer(() -> model.add(key, value)), () -> x.add(key, value), name + "add " + key);
        } else if (kind < 65) {
            Check.due(Check.answer(() -> model.get(key)), () -> x.get(key), name + "get " + key);
        } else if (kind < 66 + removals * 3) {
            Check.due(Check.answer(() -> model.remove(key)), () -> x.remove(key), name + "remove " + key);
        } else if (kind < 86) {
            moveCursor(key);
        } else if (kind < 94) {
            moveCursor(key);
            moveCursor(key);
            moveCursor(key);
        } else {
            set();
        }
    }

    private void moveCursor(long key) {
        int cursor = dice.oneIn(30) ? dice.anyInt() : dice.below(4);
        int kind = dice.below(14);
        if (kind < 2) {
            long prefix = prefix();
            Check.due(Check.answer(() -> model.open(cursor, prefix)), () -> x.open(cursor, prefix),
                    name + "open " + cursor + " " + prefix);
        } else if (kind < 6) {
            Check.due(Check.answer(() -> model.next(cursor)), () -> x.next(cursor), name + "next " + cursor);
        } else if (kind < 9) {
            Check.due(Check.answer(() -> model.previous(cursor)), () -> x.previous(cursor),
                    name + "previous " + cursor);
        } else if (kind < 11) {
            Check.due(Check.answer(() -> model.seek(cursor, key)), () -> x.seek(cursor, key),
                    name + "seek " + cursor + " " + key);
        } else if (kind < 13) {
            Check.due(Check.answer(() -> model.removeAt(cursor)), () -> x.removeAt(cursor),
                    name + "removeAt " + cursor);
        } else if (dice.oneIn(3)) {
            Check.due(Check.answer(() -> model.close(cursor)), () -> x.close(cursor), name + "close " + cursor);
        }
    }

    private void set() {
        int kind = dice.below(10);
        int slot = dice.oneIn(10) ? dice.anyInt() : dice.below(2);
        if (kind < 4) {
            setRule();
        } else if (kind < 7) {
            int tree = dice.oneIn(10) ? dice.anyInt() : dice.below(22);
            int list = dice.oneIn(10) ? dice.anyInt() : dice.below(22);
            int collapse = dice.oneIn(10) ? dice.anyInt() : dice.below(dice.oneIn(2) ? 4 : 22);
            Check.due(Check.answer(() -> model.setLimits(tree, list, collapse)), () -> {
                x.setLimits(tree, list, collapse);
                return 0;
            }, name + "setLimits");
        } else if (kind < 8) {
            Check.due(Check.answer(() -> model.save(slot)), () -> {
                x.save(slot);
                return 0;
            }, name + "save " + slot);
        } else if (kind < 9) {
            Check.due(Check.answer(() -> model.restore(slot)), () -> x.restore(slot), name + "restore " + slot);
        } else {
            int a = dice.anyInt();
            Check.due(Check.answer(() -> model.append(a, a, a, a, a)), () -> x.append(a, a, a, a, a),
                    name + "append");
        }
    }

    private void setRule() {
        String text = dice.oneIn(2) ? dice.oneOf(RULES) : dice.oneIn(3) ? texts.bad() : texts.good();
        // What a random append has left stands in front of the text, and makes it wrong.
        for (int start = 0; start < text.length(); start += 20) {
            int[] four = new int[5];
            for (int i = 0; i < 20; i++) {
                int letter = start + i < text.length() ? text.charAt(start + i) & 255 : ' ';
                four[i / 4] = four[i / 4] << 8 | letter;
            }
            Check.due(Check.answer(() -> model.append(four)),
                    () -> x.append(four[0], four[1], four[2], four[3], four[4]), name + "append");
        }
        int length = dice.oneIn(20) ? dice.anyInt() : Math.min(model.text.length(), text.length());
        Check.due(Check.answer(() -> model.setRule(length)), () -> x.setRule(length), name + "setRule " + text);
        Check.due(model.errorPosition, () -> x.errorPosition(), name + "errorPosition " + text);
    }

    private void examineSome() {
        examineMap();
        examineStructure(prefix());
        int what = dice.below(11) - 1;
        Check.due(Check.answer(() -> model.counter(what)), () -> x.counter(what), name + "counter " + what);
        int index = dice.oneIn(10) ? dice.anyInt() : dice.below(model.size() + 2) - 1;
        Check.due(Check.answer(() -> model.keyAt(index)), () -> x.keyAt(index), name + "keyAt " + index);
        Check.due(Check.answer(() -> model.mostFrequent(index)), () -> x.mostFrequent(index),
                name + "mostFrequent " + index);
    }

    private void examineMap() {
        long key = key();
        long other = key();
        Check.due(model.size(), () -> x.size(), name + "size");
        Check.due(Check.answer(() -> model.frequency(key)), () -> x.frequency(key), name + "frequency " + key);
        Check.due(Check.answer(() -> model.lower(key)), () -> x.lower(key), name + "lower " + key);
        Check.due(Check.answer(() -> model.ceiling(key)), () -> x.ceiling(key), name + "ceiling " + key);
        Check.due(Check.answer(() -> model.prefixCount(key)), () -> x.prefixCount(key),
                name + "prefixCount " + key);
        Check.due(Check.answer(() -> model.longestPrefix(key)), () -> x.longestPrefix(key),
                name + "longestPrefix " + key);
        Check.due(Check.answer(() -> model.sum(key, other)), () -> x.sum(key, other),
                name + "sum " + key + " " + other);
        Check.due(Check.answer(() -> model.cost(key)), () -> x.cost(key), name + "cost " + key);
        Check.due(model.meanCost(false), () -> x.meanCost(false), name + "numerator");
        Check.due(model.meanCost(true), () -> x.meanCost(true), name + "denominator");
    }

    private void examineStructure(long prefix) {
        Check.due(Check.answer(() -> model.kind(prefix)), () -> x.kind(prefix), name + "kind " + prefix);
        int what = dice.below(8) - 1;
        Check.due(Check.answer(() -> model.container(prefix, what)), () -> x.container(prefix, what),
                name + "container " + prefix + " " + what);
        int index = dice.below(8) - 1;
        Check.due(Check.answer(() -> model.recordAt(prefix, index)), () -> x.recordAt(prefix, index),
                name + "recordAt " + prefix + " " + index);
    }

    private void examineAll() {
        for (int what = 0; what <= 8; what++) {
            int counter = what;
            Check.due(model.counter(counter), () -> x.counter(counter), name + "counter " + counter);
        }
        for (String key : model.all().keySet()) {
            long word = Check.word(key);
            Check.due(model.cost(word), () -> x.cost(word), name + "cost " + key);
            Check.due(model.frequency(word), () -> x.frequency(word), name + "frequency " + key);
        }
        examineBelow(model.root);
    }

    private void examineBelow(Model.Node node) {
        long prefix = Check.word(node.prefix);
        Check.due(node.kind, () -> x.kind(prefix), name + "kind " + node.prefix);
        for (Model.Node child : node.children.values()) {
            examineBelow(child);
        }
        if (node.kind == 1) {
            return;
        }
        for (int what = 0; what <= 5; what++) {
            int number = what;
            Check.due(model.container(prefix, number), () -> x.container(prefix, number),
                    name + "container " + node.prefix + " " + number);
        }
        for (int i = 0; i < node.stored().size(); i++) {
            int index = i;
            Check.due(Check.word(node.stored().get(i).key), () -> x.recordAt(prefix, index),
                    name + "recordAt " + node.prefix + " " + index);
        }
    }
}
