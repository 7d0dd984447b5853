/** Draws as the document tells them, for tests that must know what comes. */
final class Draws {
    private Draws() {
    }

    static long next(long x) {
        return (1103515245L * x + 12345L) % 2147483648L;
    }

    /** The seed behind so many draws. */
    static long after(long seed, int draws) {
        long x = seed;
        for (int n = 0; n < draws; n++) {
            x = next(x);
        }
        return x;
    }

    /** A seed whose next draws of 100 are these. */
    static int seedFor(int... draws) {
        for (int seed = 1; seed < 10000000; seed++) {
            if (comes(seed, draws)) {
                return seed;
            }
        }
        throw new IllegalStateException("no seed draws that");
    }

    private static boolean comes(long seed, int[] draws) {
        long x = seed;
        for (int draw : draws) {
            x = next(x);
            if (x / 64 % 100 != draw) {
                return false;
            }
        }
        return true;
    }
}
