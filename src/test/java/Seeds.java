/** Seeds for runs whose turns are written out in a test. */
final class Seeds {
    private static final int MOST_TRIED = 1 << 22;

    private Seeds() {
    }

    /**
     * The first seed whose turns fall as written: for each turn {n, p} is asked, that of n workers which
     * are not done, by number, it falls to place p.
     */
    static int where(int[]... turns) {
        for (int seed = 0; seed < MOST_TRIED; seed++) {
            if (falls(seed, turns)) {
                return seed;
            }
        }
        throw new IllegalArgumentException("no seed for these turns");
    }

    private static boolean falls(int seed, int[][] turns) {
        long x = seed;
        for (int[] turn : turns) {
            x = next(x);
            if (x / 65536 % turn[0] != turn[1]) {
                return false;
            }
        }
        return true;
    }

    /** The document's step, in long numbers, which do not wrap around here. */
    static long next(long x) {
        return (1103515245L * x + 12345L) % (1L << 31);
    }
}
