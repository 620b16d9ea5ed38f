/** Section 6: what rule texts mean, and where their errors stand. */
public final class RuleTextTest {
    public static void main(String[] args) {
        values();
        names();
        syntaxErrors();
        valueErrors();
        depthErrors();
        longTexts();
        againstModel();
        Check.finish();
    }

    /** Whether a rule holds for the root list of a new object. */
    private static void holds(int want, String text) {
        BurstTrie x = new BurstTrie();
        Check.due(0, () -> Check.setRule(x, text), "setRule " + text);
        Check.due(BurstTrie.NONE, () -> x.errorPosition(), "no error in " + text);
        Check.due(want, () -> x.container(0, 4), "value of " + text);
    }

    private static void values() {
        String[] hold = {"1", "5", "100000", " 7 ", "(((((1)))))", "not 0", "not not 5", "1 or 0", "0 or 2",
            "1 and 2", "not 1 and 0 or 1", "1 or 0 and 0", "1<2", "2>1", "3=3", "1+1=2", "1-2<0", "2*3=6",
            "7/2=3", "(0-7)/2=0-3", "5/0=0", "0/0=0", "8-4-2=2", "16/4/2=2", "7-2+1=6", "9/2*2=8",
            "2+3*4=14", "(2+3)*4=20", "1<2 and 2<3", "not 2<1", "not(0)", "(1<2)=1", "(not 7)=0",
            "(3 or 0)=1", "(3 and 4)=1", "1or 0", "0or1", "1and 1", "1and1", "0005=5", "00000100000=100000",
            "100000*100000=14100*100000+65408", "100000*30000<0", "100000*50000>0",
            "(0-32768*65536)/(0-1)=0-32768*65536", "0-32768*65536-1>0", "not not not 0", "2 or 0 and 0"};
        String[] fail = {"0", "0 or 0", "1 and 0", "0 and 1", "not 1", "not 5", "1>2", "2<1", "1=2", "1<1",
            "1>1", "0*5", "1-1", "1/2", "5/0", "not 0 and 0", "not not 0", "(5 and 6)=5", "(5 or 0)=5",
            "(not not 5)=5", "8-4-2=6", "16/4/2=8", "100000*100000>14100*100000+65408"};
        for (String text : hold) {
            holds(1, text);
        }
        for (String text : fail) {
            holds(0, text);
        }
    }

    private static void names() {
        BurstTrie x = new BurstTrie();
        Check.setRule(x, "0");
        Check.putAll(x, "ab", "ac", "ad");
        x.get(Check.word("ab"));
        Check.due(true, () -> x.put(Check.word("ae"), 1), "put");
        // 5 accesses, 1 hit, 0 + 1 + 2 + 3 + 3 comparisons, 4 records.
        String[] hold = {"size = 4", "accesses = 5", "hits = 1", "misses = 4", "comparisons = 9", "depth = 0",
            "size+accesses+hits+misses+comparisons+depth = 23"};
        for (String text : hold) {
            Check.due(0, () -> Check.setRule(x, text), "setRule " + text);
            Check.due(1, () -> x.container(0, 4), "value of " + text);
        }
        Check.setRule(x, "size > 1 and depth = 0");
        x.get(Check.word("ab"));
        Check.due(0, () -> x.container(Check.word("a"), 4), "the rule below");
        Check.setRule(x, "depth = 1 and size = 4 and accesses = 0");
        Check.due(1, () -> x.container(Check.word("a"), 4), "depth 1");
    }

    private static void error(int code, int position, String text) {
        BurstTrie x = new BurstTrie();
        Check.due(code, () -> Check.setRule(x, text), "setRule '" + text + "'");
        Check.due(position, () -> x.errorPosition(), "position in '" + text + "'");
    }

    private static void syntaxErrors() {
        // Each text with the position of its error.
        Object[][] faults = {{"", 0}, {"   ", 3}, {"sizes", 0}, {"siz", 0}, {"Size", 0}, {"size1", 4},
            {"sizeSize", 4}, {"sizeor 1", 0}, {"size or", 7}, {"size or  ", 9}, {"size size", 5}, {"1 2", 2},
            {"1size", 1}, {"or 1", 0}, {"and 1", 0}, {"1 + not 2", 4}, {"1 < not 2", 4}, {"1 < 2 < 3", 6},
            {"1 = 2 > 3", 6}, {"not", 3}, {"not  ", 5}, {"notnot 1", 0}, {")", 0}, {"()", 1}, {"(1", 2},
            {"(1   ", 5}, {"1)", 1}, {"(1))", 3}, {"-1", 0}, {"+1", 0}, {"1 * * 2", 4}, {"1 !", 2}, {"!", 0},
            {"1\t+ 1", 1}, {"\u00e9", 0}, {"1 \u00ff", 2}, {"\0", 0}, {"1\0", 1}, {"1<=2", 2},
            {"1 == 1", 3}, {"1.5", 1}, {"1 100001", 2}, {"(((((1(", 6}, {"((((( )", 6}, {"1 or", 4},
            {"1+", 2}, {"1 (2)", 2}, {"size(1)", 4}, {"(not)", 4}, {"1,2", 1}};
        for (Object[] fault : faults) {
            error(BurstTrie.SYNTAX_ERROR, (Integer) fault[1], (String) fault[0]);
        }
        holds(0, "not1");
    }

    private static void valueErrors() {
        error(BurstTrie.VALUE_ERROR, 0, "100001");
        error(BurstTrie.VALUE_ERROR, 7, "size > 100001 !");
        error(BurstTrie.VALUE_ERROR, 2, "  00100001");
        error(BurstTrie.VALUE_ERROR, 1, "(4294967296)");
        error(BurstTrie.VALUE_ERROR, 4, "not 18446744073709551616");
        error(BurstTrie.VALUE_ERROR, 2, "1+200000 200000");
        error(BurstTrie.VALUE_ERROR, 0, "9".repeat(200));
        holds(1, "0".repeat(199) + "1");
    }

    private static void depthErrors() {
        error(BurstTrie.TOO_DEEP, 5, "((((((");
        error(BurstTrie.TOO_DEEP, 5, "((((((1))))))");
        error(BurstTrie.TOO_DEEP, 10, "( ( ( ( ( (");
        error(BurstTrie.TOO_DEEP, 9, "(1)+((((((1");
        error(BurstTrie.TOO_DEEP, 9, "(((((1)+((1");
        holds(1, "(((((1)))))and(((((1)))))");
        holds(1, "((((1)+(1))))");
    }

    private static void longTexts() {
        // Values wait at every line of the grammar, in every parenthesis.
        String open = "0or 1and 1<1+1*(";
        StringBuilder text = new StringBuilder();
        for (int i = 0; i < 5; i++) {
            text.append(open);
        }
        text.append("0or 1and 1<1+1*1").append(")))))");
        holds(1, text.toString());
        holds(1, "1" + "+1".repeat(99) + " ");
        holds(0, "98" + "-1".repeat(98));
        holds(1, "not ".repeat(48) + "1");
        holds(0, "not ".repeat(49) + "1");
        holds(1, " ".repeat(199) + "1");
    }

    private static void againstModel() {
        Dice dice = new Dice(77);
        RuleTexts texts = new RuleTexts(dice);
        for (int i = 0; i < 20000; i++) {
            String text = i % 2 == 0 ? texts.bad() : texts.good();
            BurstTrie x = new BurstTrie();
            int code = 0;
            int position = BurstTrie.NONE;
            RuleModel rule = null;
            try {
                rule = RuleModel.read(text);
            } catch (RuleModel.Fault fault) {
                code = fault.code;
                position = fault.position;
            }
            Check.due(code, () -> Check.setRule(x, text), "setRule '" + text + "'");
            Check.due(position, () -> x.errorPosition(), "position in '" + text + "'");
            if (rule != null) {
                int want = rule.value(new int[6]) != 0 ? 1 : 0;
                Check.due(want, () -> x.container(0, 4), "value of '" + text + "'");
            }
        }
    }
}
