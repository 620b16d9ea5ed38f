/** Numbers that look thrown, and are the same in every run. */
final class Dice {
    private long state;

    Dice(long seed) {
        state = seed * 2654435769L + 12345;
    }

    /** A number from 0 to below a bound. */
    int below(int bound) {
        state = state * 6364136223846793005L + 1442695040888963407L;
        return (int) ((state >>> 33) % bound);
    }

    boolean oneIn(int times) {
        return below(times) == 0;
    }

    int anyInt() {
        switch (below(4)) {
            case 0:
                return below(2) == 0 ? Integer.MIN_VALUE : Integer.MAX_VALUE;
            case 1:
                return below(7) - 3;
            default:
                return below(1 << 30) * 4 + below(4);
        }
    }

    <T> T oneOf(T[] things) {
        return things[below(things.length)];
    }
}
