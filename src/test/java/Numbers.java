/** An own sequence of numbers, so that each run is the same each time. */
final class Numbers {
    private long seed;

    Numbers(long seed) {
        this.seed = seed;
    }

    int next(int bound) {
        seed = seed * 6364136223846793005L + 1442695040888963407L;
        return (int) ((seed >>> 33) % bound);
    }
}
