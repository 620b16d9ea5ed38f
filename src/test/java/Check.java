import java.util.Map;
import java.util.Objects;
import java.util.Set;
import java.util.TreeSet;
import java.util.concurrent.Callable;

/** What the tests share: counting wrong answers, and writing words and rules as texts. */
final class Check {
    private static int calls = 0;
    private static int wrong = 0;

    private Check() {
    }

    interface Action {
        void run() throws Exception;
    }

    /** What a call answers, or the class of what it throws. */
    static Object answer(Callable<?> call) {
        try {
            return call.call();
        } catch (Exception e) {
            return e.getClass();
        }
    }

    /** Numbers are compared as longs. */
    static void due(Object want, Callable<?> call, String name) {
        Object got = answer(call);
        calls++;
        if (!Objects.equals(plain(want), plain(got))) {
            wrong++;
            System.out.println(name + " answered " + got + ", due is " + want);
        }
    }

    static void dueThrow(Class<? extends Exception> want, Action call, String name) {
        due(want, () -> {
            call.run();
            return "nothing thrown";
        }, name);
    }

    /** Compares two views of objects, and tells only where they differ. */
    static void same(Map<String, Object> want, Map<String, Object> got, String name) {
        Set<String> questions = new TreeSet<>(want.keySet());
        questions.addAll(got.keySet());
        for (String question : questions) {
            due(want.get(question), () -> got.get(question), name + ": " + question);
        }
    }

    /** Ends the test. */
    static void finish() {
        System.out.println(calls + " answers, " + wrong + " of them wrong");
        if (wrong != 0) {
            System.exit(1);
        }
    }

    private static Object plain(Object answer) {
        return answer instanceof Integer number ? Long.valueOf(number) : answer;
    }

    static long word(String letters) {
        long word = 0;
        for (int i = 0; i < 12; i++) {
            word = word << 5 | (i < letters.length() ? letters.charAt(i) - 'a' + 1 : 0);
        }
        return word;
    }

    static String letters(long word) {
        StringBuilder letters = new StringBuilder();
        for (int shift = 55; shift >= 0 && (word >> shift & 31) != 0; shift -= 5) {
            letters.append((char) ('a' - 1 + (word >> shift & 31)));
        }
        return letters.toString();
    }

    /** Appends a text, filled up with spaces to whole calls of append. */
    static void append(BurstTrie x, String text) {
        int[] four = new int[5];
        for (int start = 0; start < text.length(); start += 20) {
            for (int i = 0; i < 5; i++) {
                four[i] = 0;
                for (int k = 0; k < 4; k++) {
                    int place = start + 4 * i + k;
                    four[i] = four[i] << 8 | (place < text.length() ? text.charAt(place) & 255 : ' ');
                }
            }
            x.append(four[0], four[1], four[2], four[3], four[4]);
        }
    }

    static int setRule(BurstTrie x, String text) {
        append(x, text);
        return x.setRule(text.length());
    }

    static void putAll(BurstTrie x, String... words) {
        for (String word : words) {
            x.put(word(word), word.length());
        }
    }

    /** The keys of a container as recordAt tells them, with commas. */
    static String row(BurstTrie x, String prefix) {
        StringBuilder row = new StringBuilder();
        int count = x.container(word(prefix), 0);
        for (int i = 0; i < count; i++) {
            row.append(i == 0 ? "" : ",").append(letters(x.recordAt(word(prefix), i)));
        }
        return row.toString();
    }
}
