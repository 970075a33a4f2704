/** The edges of promise 5, run. */
public final class Promise05RunTest {
    private static final Check CHECK = new Check("Promise05RunTest");

    public static void main(String[] args) {
        noStates();
        oneState();
        allStates();
        onlyWhatCame();
        fromTheBeginning();
        allWorkersLive();
        lowest31Bits();
        seedsAtTheEnds();
        sameForEverySeed();
        CHECK.end();
    }

    private static void noStates() {
        CHECK.says("IllegalStateException, when there are no states.");
        ExploreShares x = new ExploreShares(2, 2);
        for (int seed : new int[] {0, 1, -1, Integer.MIN_VALUE, Integer.MAX_VALUE}) {
            CHECK.dueThrow("run(" + seed + ")", IllegalStateException.class, () -> x.run(seed));
        }
        x.fail(0, 0, 1);
        String before = Answers.of(x);
        CHECK.dueThrow("run(0) with a failing told", IllegalStateException.class, () -> x.run(0));
        CHECK.due("all answers", before, Answers.of(x));
        CHECK.dueThrow("size(0)", IndexOutOfBoundsException.class, () -> x.size(0));
        x.state();
        CHECK.due("run(0) with a state", 1, () -> x.run(0));
    }

    private static void oneState() {
        CHECK.says("How many states came: one");
        for (int workers = 1; workers <= 16; workers++) {
            ExploreShares x = Made.withStates(workers, 1, 1);
            CHECK.due("run(0)", 1, () -> x.run(0));
            CHECK.due("count(7)", 1, () -> x.count(7));
            x.move(0, 0);
            CHECK.due("run(0) with a move to itself", 1, () -> x.run(0));
            CHECK.due("count(6)", 1, () -> x.count(6));
            CHECK.due("count(7)", 1, () -> x.count(7));
        }
    }

    private static void allStates() {
        CHECK.says("How many states came: 200");
        ExploreShares x = Made.chain(16, 1, 200);
        CHECK.due("run(0) of a chain", 200, () -> x.run(0));
        CHECK.due("count(6) of a chain", 200, () -> x.count(6));
        ExploreShares y = Made.star(16, 1, 199);
        CHECK.due("run(0) of a star", 200, () -> y.run(0));
        CHECK.due("count(6) of a star", 2, () -> y.count(6));
        CHECK.due("size(1) of a star", 199, () -> y.size(1));
    }

    private static void onlyWhatCame() {
        CHECK.says("How many states came, not how many there are");
        ExploreShares x = Made.withMoves(2, 1, 5, new int[][] {{1, 0}, {1, 2}, {3, 4}});
        CHECK.due("run(0), no move of state 0", 1, () -> x.run(0));
        x.move(0, 3);
        CHECK.due("run(0)", 3, () -> x.run(0));
        CHECK.due("count(5)", 3, () -> x.count(5));
    }

    private static ExploreShares made() {
        ExploreShares x = Made.star(4, 1, 12);
        for (int s = 1; s < 12; s++) {
            x.move(s, s + 1);
            x.move(s, 12 - s);
        }
        x.fail(0, 0, 4);
        x.fail(2, 1, 3);
        return x;
    }

    private static void fromTheBeginning() {
        CHECK.says("Runs all, from the beginning");
        ExploreShares x = made();
        ExploreShares once = made();
        once.run(77);
        String due = Answers.of(once);
        x.run(5);
        x.run(-9);
        x.run(77);
        CHECK.due("all answers of the third run", due, Answers.of(x));
        x.run(77);
        CHECK.due("all answers of the fourth run", due, Answers.of(x));
    }

    private static void allWorkersLive() {
        CHECK.says("Runs all, from the beginning, all workers live");
        ExploreShares x = Made.star(2, 1, 2);
        x.fail(0, 0, 1);
        x.fail(1, 1, 1);
        for (int again = 0; again < 4; again++) {
            x.run(again);
            CHECK.due("failed(0, 0)", 0, () -> x.failed(0, 0));
            CHECK.due("count(10)", 1, () -> x.count(10));
            CHECK.due("worker(0, 4)", 0, () -> x.worker(0, 4));
            CHECK.due("worker(1, 4)", 1, () -> x.worker(1, 4));
        }
    }

    private static void lowest31Bits() {
        CHECK.says("x the seed's lowest 31 bits");
        for (int seed : new int[] {0, 1, 12345, 65536, 0x40000000, Integer.MAX_VALUE - 1, Integer.MAX_VALUE}) {
            ExploreShares x = made();
            x.run(seed);
            ExploreShares y = made();
            y.run(seed | Integer.MIN_VALUE);
            CHECK.due("all answers of " + seed + " and " + (seed | Integer.MIN_VALUE), Answers.of(x), Answers.of(y));
        }
    }

    /**
     * Of two workers state 3 is worker 1's, with a queue of one: each turn after the first falls to worker 0,
     * which stalls, or to worker 1, which takes the state out. The stalls before that are told by the seed.
     */
    private static void seedsAtTheEnds() {
        CHECK.says("x becomes 1103515245 * x + 12345 (31 bits), also from the ends");
        int[] seeds = {0, 1, 2, 3, 4, 5, 6, 7, 8, 9, -1, -2, -3, -4, Integer.MAX_VALUE, Integer.MAX_VALUE - 1,
            Integer.MIN_VALUE, Integer.MIN_VALUE + 1, 0x40000000, 0x3fffffff, 65535, 65536, -65536};
        ExploreShares x = Made.withMoves(2, 1, 4, new int[][] {{0, 3}, {0, 3}});
        for (int seed : seeds) {
            long number = Seeds.next(Math.floorMod((long) seed, 1L << 31));
            int stalls = 0;
            number = Seeds.next(number);
            while (number / 65536 % 2 == 0) {
                stalls++;
                number = Seeds.next(number);
            }
            x.run(seed);
            CHECK.due("worker(0, 2) of run(" + seed + ")", stalls, () -> x.worker(0, 2));
            CHECK.due("count(7) of run(" + seed + ")", 5 + stalls, () -> x.count(7));
        }
    }

    private static void sameForEverySeed() {
        CHECK.says("What is found is the same for every seed.");
        ExploreShares x = made();
        for (int seed : new int[] {0, 1, 2, 3, -1, -7, Integer.MIN_VALUE, Integer.MAX_VALUE}) {
            CHECK.due("run(" + seed + ")", 13, () -> x.run(seed));
            CHECK.due("count(6) of run(" + seed + ")", 2, () -> x.count(6));
            CHECK.due("size(1) of run(" + seed + ")", 12, () -> x.size(1));
            for (int s = 0; s <= 12; s++) {
                int state = s;
                CHECK.due("level(" + s + ") of run(" + seed + ")", s == 0 ? 0 : 1, () -> x.level(state));
            }
        }
    }
}
