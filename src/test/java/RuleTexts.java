/** Rule texts by the grammar, and the same with faults. */
final class RuleTexts {
    private static final String[] NAMES =
            {"size", "accesses", "hits", "misses", "comparisons", "depth"};
    private static final String[] NUMBERS =
            {"0", "1", "2", "3", "5", "8", "13", "007", "100000", "99999"};
    private static final String[] FAULTS = {"(", ")", "or", "and", "not", "<", "=", ">", "+", "-", "*",
        "/", "100001", "4294967296", "99999999999999999999", "sizes", "siz", "x", "A", "!", " ", "\0",
        "\t", "\u00e9", "\u00ff", "size", "7", "((((((", "<=", "Size"};

    private final Dice dice;

    RuleTexts(Dice dice) {
        this.dice = dice;
    }

    /** A rule without a fault, of at most 200 bytes. */
    String good() {
        while (true) {
            String text = rule(0, 3 + dice.below(3));
            if (text.length() <= 200) {
                return text;
            }
        }
    }

    /** A text that has a fault, most of the time. */
    String bad() {
        StringBuilder text = new StringBuilder(good());
        for (int i = 0; i <= dice.below(2); i++) {
            int place = dice.below(text.length() + 1);
            int end = Math.min(text.length(), place + dice.below(4));
            text.replace(place, end, dice.oneIn(3) ? "" : dice.oneOf(FAULTS));
        }
        return text.length() <= 200 ? text.toString() : text.substring(0, 200);
    }

    private String gap() {
        return dice.oneIn(3) ? dice.oneIn(4) ? "  " : " " : "";
    }

    private String chain(String[] signs, String... parts) {
        StringBuilder text = new StringBuilder(parts[0]);
        for (int i = 1; i < parts.length; i++) {
            text.append(gap()).append(dice.oneOf(signs)).append(gap()).append(parts[i]);
        }
        return text.toString();
    }

    private String rule(int depth, int room) {
        String[] parts = new String[1 + (dice.oneIn(5) ? dice.below(3) : 0)];
        for (int i = 0; i < parts.length; i++) {
            parts[i] = " " + conjunction(depth, room) + " ";
        }
        return chain(new String[] {"or"}, parts);
    }

    private String conjunction(int depth, int room) {
        String[] parts = new String[1 + (dice.oneIn(5) ? dice.below(3) : 0)];
        for (int i = 0; i < parts.length; i++) {
            parts[i] = (dice.oneIn(6) ? " not not" : "") + (dice.oneIn(6) ? " not " : " ")
                    + comparison(depth, room) + " ";
        }
        return chain(new String[] {"and"}, parts);
    }

    private String comparison(int depth, int room) {
        return dice.oneIn(3) ? sum(depth, room)
                : chain(new String[] {"<", "=", ">"}, sum(depth, room), sum(depth, room));
    }

    private String sum(int depth, int room) {
        String[] parts = new String[1 + (dice.oneIn(4) ? dice.below(3) : 0)];
        for (int i = 0; i < parts.length; i++) {
            parts[i] = product(depth, room);
        }
        return chain(new String[] {"+", "-"}, parts);
    }

    private String product(int depth, int room) {
        String[] parts = new String[1 + (dice.oneIn(4) ? dice.below(3) : 0)];
        for (int i = 0; i < parts.length; i++) {
            parts[i] = atom(depth, room);
        }
        return chain(new String[] {"*", "/"}, parts);
    }

    private String atom(int depth, int room) {
        if (depth < 5 && room > 0 && dice.oneIn(4)) {
            return "(" + gap() + rule(depth + 1, room - 1) + gap() + ")";
        }
        return dice.oneIn(2) ? dice.oneOf(NAMES) : dice.oneOf(NUMBERS);
    }
}
