import java.util.LinkedHashMap;
import java.util.Map;
import java.util.concurrent.Callable;
import java.util.function.Supplier;

/** All that an object answers, question by question, to see whether a call has changed anything. */
final class View {
    private static final long LAST = Check.word("zzzzzzzzzzzz");
    private static final int SPACES = 0x20202020;
    private static final int MOST_RECORDS = 100;

    private final Map<String, Object> answers = new LinkedHashMap<>();

    private View() {
    }

    /** The answers of the calls that change nothing. */
    static Map<String, Object> of(BurstTrie x) {
        View view = new View();
        view.ask("errorPosition", () -> x.errorPosition());
        view.ask("numerator", () -> x.meanCost(false));
        view.ask("denominator", () -> x.meanCost(true));
        view.askCounters(x, "");
        view.askNode(x, "");
        int size = x.size();
        view.ask("size", () -> size);
        for (int i = 0; i < size; i++) {
            view.askRecord(x, i, i + 1 < size ? x.keyAt(i + 1) : LAST);
        }
        return view.answers;
    }

    /** What only calls that change something tell, each on an object of its own. */
    static Map<String, Object> behind(Supplier<BurstTrie> make) {
        View view = new View();
        for (int cursor = 0; cursor < 4; cursor++) {
            view.askCursor(make, cursor);
        }
        view.askText(make.get());
        view.askSlot(make.get(), 0);
        view.askSlot(make.get(), 1);
        view.askSettings(make.get(), "");
        return view.answers;
    }

    private void ask(String question, Callable<?> call) {
        answers.put(question, Check.answer(call));
    }

    private void askCounters(BurstTrie x, String when) {
        for (int what = 0; what <= 8; what++) {
            int number = what;
            ask(when + "counter " + what, () -> x.counter(number));
        }
    }

    private void askRecord(BurstTrie x, int place, long behind) {
        long key = x.keyAt(place);
        String word = Check.letters(key);
        ask("keyAt " + place, () -> key);
        ask("mostFrequent " + place, () -> x.mostFrequent(place));
        ask("value " + word, () -> x.sum(key, behind));
        ask("frequency " + word, () -> x.frequency(key));
        ask("cost " + word, () -> x.cost(key));
        for (int length = 0; length <= word.length(); length++) {
            askNode(x, word.substring(0, length));
        }
    }

    private void askNode(BurstTrie x, String prefix) {
        if (answers.containsKey("kind " + prefix)) {
            return;
        }
        long word = Check.word(prefix);
        ask("kind " + prefix, () -> x.kind(word));
        for (int what = 0; what <= 5; what++) {
            int number = what;
            ask("container " + prefix + " " + what, () -> x.container(word, number));
        }
        ask("row " + prefix, () -> Check.row(x, prefix));
    }

    private void askCursor(Supplier<BurstTrie> make, int cursor) {
        BurstTrie remover = make.get();
        ask("removeAt " + cursor, () -> remover.removeAt(cursor));
        BurstTrie walker = make.get();
        ask("keys behind " + cursor, () -> row(() -> walker.next(cursor)));
        ask("keys of " + cursor, () -> row(() -> walker.previous(cursor)));
        BurstTrie closer = make.get();
        ask("close " + cursor, () -> closer.close(cursor));
    }

    /** The keys that a call answers again and again, and what it throws in the end. */
    private static String row(Callable<?> call) {
        StringBuilder keys = new StringBuilder();
        Object key = Check.answer(call);
        for (int i = 0; i < MOST_RECORDS && key instanceof Long; i++) {
            keys.append(key).append(' ');
            key = Check.answer(call);
        }
        return keys.append(key).toString();
    }

    private void askSlot(BurstTrie x, int slot) {
        ask("restore " + slot, () -> x.restore(slot));
        if (answers.get("restore " + slot) instanceof Integer) {
            askSettings(x, "restored " + slot + ", ");
        }
    }

    /** The length of the text buffer shows in what append answers, the bytes in the rule. */
    private void askText(BurstTrie x) {
        ask("append", () -> x.append(SPACES, SPACES, SPACES, SPACES, SPACES));
        int length = 200;
        while (length > 0 && refuses(x, length)) {
            length -= 20;
        }
        int read = length;
        ask("length of the text", () -> read);
        ask("errorPosition of the text", () -> x.errorPosition());
        ask("its rule at the root", () -> x.container(0, 4));
    }

    private static boolean refuses(BurstTrie x, int length) {
        return Check.answer(() -> x.setRule(length)) == IllegalArgumentException.class;
    }

    /** The limits and the rule show in what becomes of records that come and go. */
    private void askSettings(BurstTrie x, String when) {
        for (int i = 0; i < 24; i++) {
            long key = Check.word("q") | (i + 1L) << 50;
            ask(when + "put " + i, () -> x.put(key, 1));
            askCounters(x, when + "put " + i + ", ");
        }
        int size = x.size();
        for (int i = 0; i < size; i++) {
            ask(when + "remove " + i, () -> x.remove(x.keyAt(0)));
            askCounters(x, when + "remove " + i + ", ");
        }
    }
}
