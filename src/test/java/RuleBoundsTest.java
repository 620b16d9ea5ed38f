/** Section 6: rule texts at their bounds, the last that is allowed and the first that is not. */
public final class RuleBoundsTest {
    private static final String SIGNS = "<=>+-*/";

    public static void main(String[] args) {
        lengthOfText();
        numbers();
        numbersOutOfRange();
        words();
        firstByte();
        secondToken();
        spaces();
        otherBlanks();
        truth();
        comparisons();
        leftToRight();
        precedence();
        wrapping();
        quotients();
        holding();
        oneComparison();
        placeOfNot();
        parentheses();
        codesAtOnePlace();
        firstErrorOnly();
        unexpectedEnd();
        endByLength();
        Check.finish();
    }

    /** Whether a rule holds for the root of a new object, whose quantities are all 0. */
    private static void value(boolean holds, String text) {
        BurstTrie x = new BurstTrie();
        Check.due(0, () -> Check.setRule(x, text), "setRule '" + text + "'");
        Check.due(BurstTrie.NONE, () -> x.errorPosition(), "no error in '" + text + "'");
        Check.due(holds ? 1 : 0, () -> x.container(0, 4), "value of '" + text + "'");
    }

    private static void error(int code, int position, String text) {
        BurstTrie x = new BurstTrie();
        Check.setRule(x, "size = 0");
        Check.due(code, () -> Check.setRule(x, text), "setRule '" + text + "'");
        Check.due(position, () -> x.errorPosition(), "position in '" + text + "'");
        Check.due(1, () -> x.container(0, 4), "the rule before '" + text + "' stays");
    }

    private static void syntax(int position, String text) {
        error(BurstTrie.SYNTAX_ERROR, position, text);
    }

    /** "a text of at most 200 bytes". */
    private static void lengthOfText() {
        value(true, "10" + "+1".repeat(99));
        value(true, " ".repeat(199) + "1");
        value(true, "1" + " ".repeat(199));
        value(false, "0".repeat(200));
        syntax(199, "10" + "+1".repeat(98) + "+)");
        syntax(200, "100" + "+1".repeat(98) + "+");
        syntax(200, " ".repeat(200));
        syntax(0, "");
    }

    /** "N is a number from 0 to 100,000, the longest possible sequence of digits". */
    private static void numbers() {
        value(false, "0");
        value(false, "000");
        value(true, "1");
        value(true, "99999 + 1 = 100000");
        value(true, "100000 - 1 = 99999");
        value(true, "0000100000 = 100000");
        value(true, "0".repeat(150) + "100000 = 100000");
        value(true, "12 = 6 + 6");
        value(true, "1<2and 2<3");
    }

    /** "a number that is out of its range (at its first digit)". */
    private static void numbersOutOfRange() {
        error(BurstTrie.VALUE_ERROR, 0, "100001");
        error(BurstTrie.VALUE_ERROR, 0, "0100001");
        error(BurstTrie.VALUE_ERROR, 0, "1000000");
        error(BurstTrie.VALUE_ERROR, 3, "   999999");
        error(BurstTrie.VALUE_ERROR, 0, "2147483647");
        error(BurstTrie.VALUE_ERROR, 0, "2147483648");
        error(BurstTrie.VALUE_ERROR, 0, "4294967296");
        error(BurstTrie.VALUE_ERROR, 0, "4294967297");
        error(BurstTrie.VALUE_ERROR, 0, "9223372036854775808");
        error(BurstTrie.VALUE_ERROR, 0, "18446744073709551617");
        error(BurstTrie.VALUE_ERROR, 0, "1" + "0".repeat(199));
        error(BurstTrie.VALUE_ERROR, 7, "size < 100001 or");
        error(BurstTrie.VALUE_ERROR, 5, "(((((100001)))))");
        error(BurstTrie.VALUE_ERROR, 4, "not 100001");
        error(BurstTrie.VALUE_ERROR, 2, "1*100001x");
    }

    /** "A word is the longest possible sequence of the letters a to z." */
    private static void words() {
        for (String name : new String[] {"size", "accesses", "hits", "misses", "comparisons", "depth"}) {
            value(true, name + "=0");
            value(false, name);
            syntax(0, name + "x");
            syntax(0, name + "or 1");
            syntax(0, name.substring(0, name.length() - 1));
            syntax(0, name.substring(1));
            syntax(0, name.substring(0, 1).toUpperCase() + name.substring(1));
            syntax(name.length(), name + "1");
            syntax(name.length() + 1, name + " " + name);
        }
        syntax(0, "nota 1");
        syntax(0, "no");
        syntax(2, "1 orsize");
        syntax(2, "1 o");
        syntax(2, "1 andnot 1");
        syntax(2, "1 an 1");
        syntax(1, "1x");
        value(true, "not0");
        value(true, "0or1");
        value(true, "1and1");
        value(true, "not(0)and not(0)or(0)");
    }

    /** "a byte or token that is not allowed here (at its first byte)": each byte alone. */
    private static void firstByte() {
        for (int sign = 0; sign < 256; sign++) {
            String text = "" + (char) sign;
            if (sign >= '0' && sign <= '9') {
                value(sign != '0', text);
            } else {
                syntax(sign == '(' || sign == ' ' ? 1 : 0, text);
            }
        }
    }

    /** Each byte behind an operand. */
    private static void secondToken() {
        for (int sign = 0; sign < 256; sign++) {
            String text = "size" + (char) sign;
            if (sign == ' ') {
                value(false, text);
            } else if (SIGNS.indexOf(sign) >= 0) {
                syntax(5, text);
                syntax(7, text + "  ");
            } else {
                syntax(sign >= 'a' && sign <= 'z' ? 0 : 4, text);
                syntax(5, "size " + (char) sign);
            }
        }
    }

    /** "Spaces (byte 32) may stand in front of every token and at the end of the text." */
    private static void spaces() {
        String[] tokens = {"not", "(", "size", "+", "1", ")", "<", "2", "or", "hits", "*", "3", "=", "4", "and",
            "depth", "-", "misses", "/", "5", ">", "6"};
        for (int gap = 1; gap <= 6; gap++) {
            StringBuilder text = new StringBuilder();
            for (String token : tokens) {
                text.append(" ".repeat(gap)).append(token);
            }
            value(false, text + " ".repeat(gap));
        }
        value(false, "not(size+1)<2or hits*3=4and depth-misses/5>6");
        syntax(2, "1 2");
        syntax(0, "s ize");
        syntax(0, "siz e");
        syntax(0, "no t 1");
        syntax(5, "size o r 1");
    }

    /** No other byte is a space. */
    private static void otherBlanks() {
        for (char blank : new char[] {0, 9, 10, 11, 12, 13, 31, 33, 127, 128, 160, 255}) {
            syntax(0, blank + "1");
            syntax(1, "1" + blank);
            syntax(2, "1+" + blank + "1");
        }
    }

    /** "give 1 for true and 0 for false; every other value than 0 counts as true". */
    private static void truth() {
        String[] operands = {"0", "1", "2", "(0-1)", "(32768*65536)"};
        for (int i = 0; i < operands.length; i++) {
            value(i == 0, "(not " + operands[i] + ")=1");
            value(i != 0, "(not " + operands[i] + ")=0");
            for (int k = 0; k < operands.length; k++) {
                int or = i != 0 || k != 0 ? 1 : 0;
                int and = i != 0 && k != 0 ? 1 : 0;
                value(true, "(" + operands[i] + " or " + operands[k] + ")=" + or);
                value(true, "(" + operands[i] + " and " + operands[k] + ")=" + and);
            }
        }
    }

    /** Below, at and above. */
    private static void comparisons() {
        for (int left = 4; left <= 6; left++) {
            value(true, "(" + left + "<5)=" + (left < 5 ? 1 : 0));
            value(true, "(" + left + "=5)=" + (left == 5 ? 1 : 0));
            value(true, "(" + left + ">5)=" + (left > 5 ? 1 : 0));
        }
        value(true, "0-1<0");
        value(false, "0-1>0");
        value(true, "32768*65536<32768*65536-1");
    }

    /** "Operators of one line of the grammar are applied from left to right." */
    private static void leftToRight() {
        value(true, "9-4-3=2");
        value(true, "9-4+3=8");
        value(true, "64/8/4=2");
        value(true, "7/2*2=6");
        value(true, "7*3/2=10");
        value(true, "3*100000*100000/100000=0-647");
        value(false, "not not 0=1");
        value(true, "(not not 7)=1");
        value(true, "(not not not 7)=0");
    }

    /** A lower line of the grammar binds more closely. */
    private static void precedence() {
        value(true, "1 or 1 and 0");
        value(true, "0 and 0 or 1");
        value(false, "(1 or 1) and 0");
        value(false, "not 0 and 0");
        value(true, "not 1 or 1");
        value(false, "not 0<2");
        value(false, "2<1+1");
        value(true, "1+1*0");
        value(true, "1-1/2");
        value(true, "2+2*2=6");
        value(true, "(2+2)*2=8");
        value(false, "1=1 and 0");
    }

    /** "Values are 32-bit ints that wrap around." */
    private static void wrapping() {
        value(true, "32767*65536+65535=0-32768*65536-1");
        value(true, "32767*65536+65535>0");
        value(true, "32767*65536+65535+1<0");
        value(true, "32768*65536=0-32768*65536");
        value(true, "0-32768*65536-1>0");
        value(true, "65536*65536=0");
        value(true, "100000*100000=14100*100000+65408");
        value(true, "46341*46341<0");
        value(true, "46340*46340>0");
        value(true, "(32768*65536)*(0-1)=32768*65536");
    }

    /** "A quotient is rounded towards zero; a division by 0 gives 0." */
    private static void quotients() {
        value(true, "7/2=3");
        value(true, "(0-7)/2=0-3");
        value(true, "7/(0-2)=0-3");
        value(true, "(0-7)/(0-2)=3");
        value(true, "1/2=0");
        value(true, "(0-1)/2=0");
        value(true, "6/6=1");
        value(true, "5/6=0");
        value(true, "5/0=0");
        value(true, "0/0=0");
        value(true, "(0-5)/0=0");
        value(true, "5/size=0");
        value(true, "5/(size-hits)+1=1");
        value(true, "5/0/0=0");
        value(true, "32768*65536/(0-1)=32768*65536");
        value(true, "(32768*65536)/0=0");
    }

    /** "The rule holds if its value is not 0." */
    private static void holding() {
        value(false, "0");
        value(false, "1-1");
        value(false, "65536*65536");
        value(true, "0-1");
        value(true, "2");
        value(true, "100000");
        value(true, "32768*65536");
    }

    /** "comparison = sum [ ( "<" | "=" | ">" ) sum ]": one sign at most, but in parentheses. */
    private static void oneComparison() {
        for (char first : "<=>".toCharArray()) {
            for (char second : "<=>".toCharArray()) {
                syntax(3, "1" + first + "1" + second + "1");
                syntax(2, "1" + first + second + "1");
            }
        }
        value(true, "(1<2)=1");
        value(true, "1=(1<2)");
        value(true, "1<2 and 2<3");
    }

    /** "not" stands in front of a comparison, never behind a sign. */
    private static void placeOfNot() {
        for (char sign : SIGNS.toCharArray()) {
            syntax(2, "1" + sign + "not 0");
            BurstTrie x = new BurstTrie();
            Check.due(0, () -> Check.setRule(x, "1" + sign + "(not 0)"), "not in parentheses");
        }
        syntax(2, "1 not 0");
        value(true, "not 0 and not 0");
        value(true, "0 or not 0");
        value(true, "(not 0)");
    }

    /** "an opening parenthesis inside 5 others". */
    private static void parentheses() {
        for (int depth = 1; depth <= 5; depth++) {
            value(true, "(".repeat(depth) + "1" + ")".repeat(depth));
            syntax(2 * depth, "(".repeat(depth) + "1" + ")".repeat(depth - 1));
            syntax(2 * depth + 1, "(".repeat(depth) + "1" + ")".repeat(depth + 1));
        }
        error(BurstTrie.TOO_DEEP, 5, "((((((1))))))");
        error(BurstTrie.TOO_DEEP, 5, "((((((");
        error(BurstTrie.TOO_DEEP, 9, "(((((not (1))))))");
        error(BurstTrie.TOO_DEEP, 7, "(((((1+(");
        error(BurstTrie.TOO_DEEP, 8, " ( (((( (");
        value(true, "(((((1)))))*(((((1)))))");
        value(true, "((((1)*(1))*(1))*((1)))*(1)");
        error(BurstTrie.TOO_DEEP, 17, "(((((1)))))+((((((1");
    }

    /** "If several error codes fit the same position, the first one in this list is reported". */
    private static void codesAtOnePlace() {
        syntax(2, "1 100001");
        syntax(4, "size100001");
        syntax(3, "(1)100001");
        syntax(6, "(((((1(1))))))");
        syntax(7, "((((( 1((");
        syntax(2, "1 ((((((");
        error(BurstTrie.VALUE_ERROR, 2, "1+100001");
        error(BurstTrie.TOO_DEEP, 7, "(((((1+((");
    }

    /** "Reading stops at the first error." */
    private static void firstErrorOnly() {
        error(BurstTrie.VALUE_ERROR, 0, "100001 sizes ((((((");
        error(BurstTrie.VALUE_ERROR, 5, "(((((100001((((((");
        syntax(0, "sizes 100001");
        syntax(2, "1 1 100001");
        syntax(1, "1!100001");
        error(BurstTrie.TOO_DEEP, 5, "((((((100001 sizes");
        error(BurstTrie.VALUE_ERROR, 3, "(1+100001");
    }

    /** "an unexpected end of the text (at the length of the text)", behind spaces, too. */
    private static void unexpectedEnd() {
        String[] texts = {"", "not", "1 or", "1 and", "1 and not", "1<", "1=", "1>", "1+", "1-", "1*", "1/", "(",
            "(1", "((1)", "(not", "(1 or", "((((("};
        for (String text : texts) {
            syntax(text.length(), text);
            syntax(text.length() + 1, text + " ");
            syntax(text.length() + 7, text + " ".repeat(7));
        }
    }

    /** The text ends where setRule's length says, not where the buffer ends. */
    private static void endByLength() {
        String text = "size + 12 > 100001";
        int[][] ends = {{0, BurstTrie.SYNTAX_ERROR, 0}, {1, BurstTrie.SYNTAX_ERROR, 0}, {4, 0, -1}, {5, 0, -1},
            {6, BurstTrie.SYNTAX_ERROR, 6}, {7, BurstTrie.SYNTAX_ERROR, 7}, {8, 0, -1}, {9, 0, -1}, {10, 0, -1},
            {11, BurstTrie.SYNTAX_ERROR, 11}, {13, 0, -1}, {17, 0, -1}, {18, BurstTrie.VALUE_ERROR, 12}};
        for (int[] end : ends) {
            BurstTrie x = new BurstTrie();
            Check.append(x, text);
            Check.due(end[1], () -> x.setRule(end[0]), "the first " + end[0] + " bytes of '" + text + "'");
            Check.due(end[2], () -> x.errorPosition(), "position in them");
        }
    }
}
