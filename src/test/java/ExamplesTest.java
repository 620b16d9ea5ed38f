import java.util.NoSuchElementException;

/** The four examples of the document. */
public final class ExamplesTest {
    private static final long A = 36028797018963968L;
    private static final long AB = 38280596832649216L;
    private static final long AC = 39406496739491840L;
    private static final long B = 72057594037927936L;
    private static final long C = 108086391056891904L;

    public static void main(String[] args) {
        first();
        second();
        third();
        fourth();
        Check.finish();
    }

    private static void first() {
        BurstTrie x = new BurstTrie();
        Check.due(true, () -> x.put(A, 1), "put a");
        Check.due(5, () -> x.add(B, 5), "add b");
        Check.due(1, () -> x.get(A), "get a");
        Check.due(A, () -> x.recordAt(0L, 0), "recordAt 0");
        Check.due(3, () -> x.container(0L, 3), "comparisons");
        Check.due(2, () -> x.cost(B), "cost b");
        Check.due(1, () -> x.meanCost(false), "numerator");
        Check.due(1, () -> x.meanCost(true), "denominator");
        Check.dueThrow(NoSuchElementException.class, () -> x.get(C), "get c");
        Check.due(5, () -> x.counter(4), "total");
    }

    private static void second() {
        BurstTrie x = new BurstTrie();
        Check.due(20, () -> x.append(1936292453, 540942385, 538976288, 538976288, 538976288), "append");
        Check.due(0, () -> x.setRule(8), "setRule");
        Check.due(true, () -> x.put(A, 1), "put a");
        Check.due(true, () -> x.put(AB, 2), "put ab");
        Check.due(1, () -> x.kind(0L), "kind of the root");
        Check.due(2, () -> x.kind(A), "kind of a");
        Check.due(true, () -> x.put(AC, 3), "put ac");
        Check.due(1, () -> x.kind(A), "kind of a after the burst");
        Check.due(0, () -> x.cost(A), "cost a");
        Check.due(2, () -> x.counter(5), "bursts");
        Check.due(2, () -> x.remove(AB), "remove ab");
        Check.due(2, () -> x.counter(8), "collapses");
        Check.due(2, () -> x.kind(0L), "kind of the root at the end");
    }

    private static void third() {
        BurstTrie x = new BurstTrie();
        x.setLimits(2, 2, 0);
        Check.due(true, () -> x.put(B, 2), "put b");
        Check.due(true, () -> x.put(A, 1), "put a");
        Check.due(true, () -> x.put(C, 3), "put c");
        Check.due(3, () -> x.kind(0L), "kind of the root");
        Check.due(C, () -> x.recordAt(0L, 0), "recordAt 0");
        Check.due(A, () -> x.recordAt(0L, 1), "recordAt 1");
        Check.due(3, () -> x.remove(C), "remove c");
        Check.due(1, () -> x.remove(A), "remove a");
        Check.due(2, () -> x.kind(0L), "kind of the root at the end");
        Check.due(1, () -> x.counter(7), "trees that became lists");
    }

    private static void fourth() {
        BurstTrie x = new BurstTrie();
        Check.due(true, () -> x.put(A, 1), "put a");
        Check.due(true, () -> x.put(AB, 2), "put ab");
        Check.due(2, () -> x.open(0, A), "open");
        Check.due(A, () -> x.next(0), "next");
        Check.due(AB, () -> x.next(0), "next again");
        Check.due(AB, () -> x.previous(0), "previous");
        Check.due(2, () -> x.removeAt(0), "removeAt");
        Check.due(true, () -> x.put(C, 3), "put c");
        Check.dueThrow(IllegalStateException.class, () -> x.next(0), "next of an invalid cursor");
        Check.due(true, () -> x.close(0), "close");
    }
}
