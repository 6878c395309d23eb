/** Numbers that look like chance but are the same in every run. */
final class Dice {
    private long state;

    Dice(long seed) {
        state = seed;
    }

    int bits() {
        state = state * 6364136223846793005L + 1442695040888963407L;
        return (int) (state >>> 32);
    }

    int below(int limit) {
        return Math.floorMod(bits() >>> 3, limit);
    }
}
