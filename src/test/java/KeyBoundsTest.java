import java.util.Arrays;
import java.util.LinkedHashMap;
import java.util.Map;
import java.util.concurrent.Callable;

/** Section 1: what a key is and what none is, for each parameter that is a key or a prefix. */
public final class KeyBoundsTest {
    private static final int LONGEST = 12;

    public static void main(String[] args) {
        lengths();
        letters();
        gaps();
        upperBits();
        order();
        equalPrefix();
        longestKeys();
        Check.finish();
    }

    private static long w(String letters) {
        return Check.word(letters);
    }

    private static long group(int letter, int place) {
        return (long) letter << 55 - 5 * place;
    }

    private static String as(int length) {
        return "a".repeat(length);
    }

    /** The calls that refuse no key, in a map with cursor 0 open. */
    private static Map<String, Callable<?>> calls(long key) {
        BurstTrie x = new BurstTrie();
        x.open(0, 0);
        Map<String, Callable<?>> calls = new LinkedHashMap<>();
        calls.put("seek", () -> x.seek(0, key));
        calls.put("get", () -> x.get(key));
        calls.put("remove", () -> x.remove(key));
        calls.put("frequency", () -> x.frequency(key));
        calls.put("lower", () -> x.lower(key));
        calls.put("ceiling", () -> x.ceiling(key));
        calls.put("prefixCount", () -> x.prefixCount(key));
        calls.put("longestPrefix", () -> x.longestPrefix(key));
        calls.put("sum from", () -> x.sum(key, 0));
        calls.put("sum to", () -> x.sum(0, key));
        calls.put("open", () -> x.open(1, key));
        calls.put("kind", () -> x.kind(key));
        calls.put("container", () -> x.container(key, 0));
        calls.put("recordAt", () -> x.recordAt(key, 0));
        calls.put("cost", () -> x.cost(key));
        calls.put("put", () -> x.put(key, 1));
        calls.put("add", () -> x.add(key, 1));
        return calls;
    }

    private static void isKey(boolean want, long key) {
        calls(key).forEach((name, call) -> Check.due(want,
                () -> Check.answer(call) != IllegalArgumentException.class, name + " of " + key + " takes it"));
    }

    /** "A key is a word of 0 to 12 letters". */
    private static void lengths() {
        for (int length = 0; length <= LONGEST; length++) {
            isKey(true, w(as(length)));
            isKey(true, w("z".repeat(length)));
        }
    }

    /** "of letters a to z ...; a is 1, z is 26": 27 to 31 are no letters, at any place. */
    private static void letters() {
        for (int place = 0; place < LONGEST; place++) {
            long front = w(as(place));
            isKey(true, front | group(1, place));
            isKey(true, front | group(26, place));
            for (int letter = 27; letter <= 31; letter++) {
                isKey(false, front | group(letter, place));
            }
            long rest = w(as(LONGEST)) & ~group(31, place);
            isKey(true, rest | group(26, place));
            isKey(false, rest | group(27, place));
            isKey(false, rest | group(31, place));
        }
    }

    /** "the groups behind the word are 0": no letter stands behind a missing one. */
    private static void gaps() {
        for (int place = 0; place < LONGEST; place++) {
            long gap = w(as(LONGEST)) & ~group(31, place);
            isKey(place == LONGEST - 1, gap);
            for (int behind = place + 1; behind < LONGEST; behind++) {
                isKey(false, w(as(place)) | group(1, behind));
                isKey(false, w(as(place)) | group(26, behind));
            }
        }
        isKey(false, 1);
        isKey(true, w(as(11)) | 1);
        isKey(true, w(as(11)) | 26);
    }

    /** "12 groups of 5 bits, the first letter in the highest group (bits 59 to 55)". */
    private static void upperBits() {
        for (long word : new long[] {0, w("a"), w(as(LONGEST)), w("z".repeat(LONGEST))}) {
            isKey(true, word);
            for (int bit = 60; bit <= 63; bit++) {
                isKey(false, word | 1L << bit);
            }
            isKey(false, word | -1L << 60);
        }
        isKey(false, -1);
        isKey(false, Long.MIN_VALUE);
        isKey(false, Long.MAX_VALUE);
        isKey(false, (1L << 60) - 1);
        isKey(false, w("z".repeat(LONGEST)) + 1);
    }

    /** "the lexicographic order of the words, a word before all longer words that begin with it". */
    private static void order() {
        String[] words = {"", "a", "aa", "aaa", as(12), as(11) + "b", "aab", "ab", "az", "azz", "b", "ba", "z",
            "zy", "zz", "z".repeat(11), "z".repeat(12)};
        BurstTrie x = new BurstTrie();
        for (int i = words.length - 1; i >= 0; i--) {
            x.put(w(words[i]), i);
        }
        for (int i = 0; i < words.length; i++) {
            int place = i;
            Check.due(w(words[i]), () -> x.keyAt(place), "keyAt " + i);
            Check.due(i == 0 ? -1 : w(words[i - 1]), () -> x.lower(w(words[place])), "lower " + words[i]);
        }
        String[] sorted = words.clone();
        Arrays.sort(sorted);
        Check.due(Arrays.asList(words), () -> Arrays.asList(sorted), "the order of the words");
    }

    /** "a key has a prefix if it begins with it (also if they are equal)". */
    private static void equalPrefix() {
        BurstTrie x = new BurstTrie();
        Check.putAll(x, "ab", "a", "b", "abc", "ac");
        Check.due(2, () -> x.prefixCount(w("ab")), "prefixCount counts the prefix itself");
        Check.due(2, () -> x.open(0, w("ab")), "open counts it");
        Check.due(w("ab"), () -> x.next(0), "next answers it");
        Check.due(w("ab"), () -> x.longestPrefix(w("ab")), "longestPrefix of a key");
        Check.due(1, () -> x.prefixCount(w("abc")), "a prefix that is no key's but its own");
        Check.due(0, () -> x.prefixCount(w("abcd")), "a prefix longer than all keys");
        Check.due(5, () -> x.prefixCount(0), "all keys have the empty prefix");
    }

    /** Words of 12 letters stand at the end of the groups, prefixes of 12 letters at that of prefixes. */
    private static void longestKeys() {
        BurstTrie x = new BurstTrie();
        Check.putAll(x, as(12), as(11) + "b", as(11), as(11) + "z");
        Check.due(1, () -> x.prefixCount(w(as(12))), "prefixCount of 12 letters");
        Check.due(0, () -> x.prefixCount(w(as(11) + "c")), "prefixCount of 12 letters, none");
        Check.due(4, () -> x.prefixCount(w(as(11))), "prefixCount of 11 letters");
        Check.due(1, () -> x.open(0, w(as(11) + "z")), "open of 12 letters");
        Check.due(w(as(11) + "z"), () -> x.next(0), "its key");
        Check.due(w(as(11) + "b"), () -> x.longestPrefix(w(as(11) + "b")), "longestPrefix of 12 letters");
        Check.due(w(as(11)), () -> x.longestPrefix(w(as(11) + "c")), "longestPrefix of 11 letters");
        Check.due(w(as(11) + "z"), () -> x.ceiling(w(as(11) + "c")), "ceiling");
        Check.due(w(as(11)), () -> x.lower(w(as(12))), "lower");
    }
}
