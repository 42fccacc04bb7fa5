/** The rule of digest(), over numbers that a test writes out. */
final class Digest {
    static final long SEED = 149;

    private Digest() { }

    static long of(int... numbers) {
        return on(SEED, numbers);
    }

    static long on(long h, int... numbers) {
        for (int v : numbers) h = 31 * h + v;
        return h;
    }
}
