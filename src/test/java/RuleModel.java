import java.util.ArrayList;
import java.util.List;

/** Section 6 of the document once more: all tokens first, then the grammar line by line. */
final class RuleModel {
    static final class Fault extends RuntimeException {
        private static final long serialVersionUID = 1L;
        final int code;
        final int position;

        Fault(int code, int position) {
            this.code = code;
            this.position = position;
        }
    }

    interface Expr {
        int value(int[] names);
    }

    private static final List<String> NAMES =
            List.of("size", "accesses", "hits", "misses", "comparisons", "depth");

    private record Token(String text, int position) {
    }

    private final List<Token> tokens = new ArrayList<>();
    private int at = 0;
    private final Expr root;

    private RuleModel(String text) {
        split(text);
        root = rule(0);
        if (!look().isEmpty()) {
            throw syntax();
        }
    }

    static RuleModel read(String text) {
        return new RuleModel(text);
    }

    int value(int[] names) {
        return root.value(names);
    }

    private void split(String text) {
        int place = 0;
        while (place < text.length()) {
            int start = place;
            if (text.charAt(place) == ' ') {
                place++;
                continue;
            }
            for (String class1 : new String[] {"abcdefghijklmnopqrstuvwxyz", "0123456789"}) {
                while (place < text.length() && class1.indexOf(text.charAt(place)) >= 0) {
                    place++;
                }
                if (place > start) {
                    break;
                }
            }
            place = Math.max(place, start + 1);
            tokens.add(new Token(text.substring(start, place), start));
        }
        tokens.add(new Token("", text.length()));
    }

    private String look() {
        return tokens.get(at).text;
    }

    private Fault syntax() {
        return new Fault(-2, tokens.get(at).position);
    }

    private Expr rule(int depth) {
        Expr left = conjunction(depth);
        while (look().equals("or")) {
            at++;
            Expr a = left;
            Expr b = conjunction(depth);
            left = n -> a.value(n) != 0 || b.value(n) != 0 ? 1 : 0;
        }
        return left;
    }

    private Expr conjunction(int depth) {
        Expr left = negation(depth);
        while (look().equals("and")) {
            at++;
            Expr a = left;
            Expr b = negation(depth);
            left = n -> a.value(n) != 0 && b.value(n) != 0 ? 1 : 0;
        }
        return left;
    }

    private Expr negation(int depth) {
        if (look().equals("not")) {
            at++;
            Expr a = negation(depth);
            return n -> a.value(n) == 0 ? 1 : 0;
        }
        return comparison(depth);
    }

    private Expr comparison(int depth) {
        Expr a = sum(depth);
        String sign = look();
        if (!sign.equals("<") && !sign.equals("=") && !sign.equals(">")) {
            return a;
        }
        at++;
        Expr b = sum(depth);
        int wanted = "<=>".indexOf(sign) - 1;
        return n -> Integer.compare(a.value(n), b.value(n)) == wanted ? 1 : 0;
    }

    private Expr sum(int depth) {
        Expr left = product(depth);
        while (look().equals("+") || look().equals("-")) {
            int sign = look().equals("+") ? 1 : -1;
            at++;
            Expr a = left;
            Expr b = product(depth);
            left = n -> (int) (a.value(n) + (long) sign * b.value(n));
        }
        return left;
    }

    private Expr product(int depth) {
        Expr left = atom(depth);
        while (look().equals("*") || look().equals("/")) {
            boolean times = look().equals("*");
            at++;
            Expr a = left;
            Expr b = atom(depth);
            left = times ? n -> (int) ((long) a.value(n) * b.value(n)) : n -> quotient(a.value(n), b.value(n));
        }
        return left;
    }

    private static int quotient(long a, long b) {
        return b == 0 ? 0 : (int) (a / b);
    }

    private Expr atom(int depth) {
        String token = look();
        if (NAMES.contains(token)) {
            int name = NAMES.indexOf(token);
            at++;
            return n -> n[name];
        }
        if (!token.isEmpty() && Character.isDigit(token.charAt(0))) {
            String digits = token.replaceFirst("^0+", "");
            if (digits.length() > 6 || !digits.isEmpty() && Integer.parseInt(digits) > 100000) {
                throw new Fault(-3, tokens.get(at).position);
            }
            int number = digits.isEmpty() ? 0 : Integer.parseInt(digits);
            at++;
            return n -> number;
        }
        if (token.equals("(")) {
            if (depth == 5) {
                throw new Fault(-4, tokens.get(at).position);
            }
            at++;
            Expr inside = rule(depth + 1);
            if (!look().equals(")")) {
                throw syntax();
            }
            at++;
            return inside;
        }
        throw syntax();
    }
}
