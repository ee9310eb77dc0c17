/** Numbers that look thrown, the same ones in every run of the tests. */
final class Dice {
    private long state;

    Dice(long seed) {
        state = seed * 0x9E3779B97F4A7C15L + 1;
    }

    int next() {
        state = state * 6364136223846793005L + 1442695040888963407L;
        return (int) (state >>> 32);
    }

    int below(int end) {
        return Math.floorMod(next() >> 3, end);
    }

    int between(int least, int most) {
        return least + below(most - least + 1);
    }
}
