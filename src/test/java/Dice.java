/** Numbers that look like chance and are the same in each run. */
final class Dice {
    private long seed;

    Dice(long seed) {
        this.seed = seed * 0x9E3779B97F4A7C15L + 1;
        any();
    }

    int any() {
        seed = seed * 6364136223846793005L + 1442695040888963407L;
        return (int) (seed >>> 32) ^ (int) (seed >>> 13);
    }

    /** 0 .. n - 1. */
    int below(int n) {
        return Math.floorMod(any(), n);
    }

    /** least .. most. */
    int from(int least, int most) {
        return least + below(most - least + 1);
    }

    boolean once(int in) {
        return below(in) == 0;
    }
}
