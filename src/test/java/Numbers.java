/** A row of numbers that looks mixed and is always the same. */
final class Numbers {
    private long state;

    Numbers(long seed) {
        state = seed;
    }

    int below(int bound) {
        state = state * 6364136223846793005L + 1442695040888963407L;
        return (int) ((state >>> 33) % bound);
    }

    int between(int least, int most) {
        return least + below(most - least + 1);
    }

    boolean oneIn(int many) {
        return below(many) == 0;
    }
}
