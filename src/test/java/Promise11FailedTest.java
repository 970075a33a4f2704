/** The edges of promise 11, failed. */
public final class Promise11FailedTest {
    private static final Check CHECK = new Check("Promise11FailedTest");

    public static void main(String[] args) {
        noneBeforeARun();
        noneHappened();
        noneForTheOnlyOne();
        anotherWhat();
        oneAndNoMore();
        fifteenAndNoMore();
        inTheOrderInWhichTheyHappened();
        allTurnsBeforeIt();
        countedFromZeroInEachRun();
        CHECK.end();
    }

    private static void dueFailing(ExploreShares x, int k, int... want) {
        for (int what = 0; what < 3; what++) {
            int asked = what;
            CHECK.due("failed(" + k + ", " + what + ")", want[what], () -> x.failed(k, asked));
        }
    }

    private static void dueNone(ExploreShares x) {
        for (int what = -1; what <= 3; what++) {
            int asked = what;
            CHECK.dueThrowOutside("failed(k, " + what + ")", -1, IndexOutOfBoundsException.class,
                    k -> x.failed(k, asked));
        }
        CHECK.due("count(10)", 0, () -> x.count(10));
    }

    private static void noneBeforeARun() {
        CHECK.says("IndexOutOfBoundsException, when there is none: nothing was run");
        dueNone(new ExploreShares(2, 1));
        ExploreShares x = Made.star(2, 1, 3);
        x.fail(0, 0, 1);
        dueNone(x);
        x.run(1);
        dueFailing(x, 0, 0, 0, 0);
        x.move(0, 1);
        dueNone(x);
    }

    private static void noneHappened() {
        CHECK.says("Failings that happened: not all that were told");
        ExploreShares x = Made.star(2, 1, 3);
        x.fail(0, 2, 1);
        x.fail(1, 199, 1);
        x.fail(0, 0, 1000);
        x.run(1);
        dueNone(x);
        CHECK.due("count(4)", 3, () -> x.count(4));
    }

    private static void noneForTheOnlyOne() {
        CHECK.says("If another one is live");
        ExploreShares x = Made.star(1, 1, 3);
        x.fail(0, 0, 1);
        x.fail(0, 1, 1);
        CHECK.due("run(1)", 4, () -> x.run(1));
        dueNone(x);
        CHECK.due("worker(0, 4)", 1, () -> x.worker(0, 4));
    }

    private static void anotherWhat() {
        CHECK.says("IndexOutOfBoundsException .. for another what");
        ExploreShares x = Made.star(2, 1, 3);
        x.fail(0, 0, 1);
        x.run(1);
        CHECK.dueThrowOutside("failed(0, what)", 2, IndexOutOfBoundsException.class, what -> x.failed(0, what));
        CHECK.dueThrow("failed(1, 3)", IndexOutOfBoundsException.class, () -> x.failed(1, 3));
        CHECK.dueThrow("failed(-1, -1)", IndexOutOfBoundsException.class, () -> x.failed(-1, -1));
    }

    private static void oneAndNoMore() {
        CHECK.says("IndexOutOfBoundsException, when there is none: next to the only one");
        ExploreShares x = Made.star(2, 1, 3);
        x.fail(0, 0, 1);
        x.run(1);
        dueFailing(x, 0, 0, 0, 0);
        for (int what = 0; what < 3; what++) {
            int asked = what;
            CHECK.dueThrowOutside("failed(k, " + what + ")", 0, IndexOutOfBoundsException.class,
                    k -> x.failed(k, asked));
        }
    }

    /** State 0 goes from worker to worker; each one fails in its first turn but for the last one that is live. */
    private static void fifteenAndNoMore() {
        CHECK.says("Failings that happened, as many as can be");
        ExploreShares x = Made.withStates(16, 1, 1);
        for (int w = 0; w < 16; w++) {
            x.fail(w, 0, 1);
        }
        x.run(1);
        CHECK.due("count(10)", 15, () -> x.count(10));
        CHECK.due("count(9)", 1, () -> x.count(9));
        CHECK.due("count(7)", 1, () -> x.count(7));
        for (int k = 0; k < 15; k++) {
            dueFailing(x, k, k, 0, 0);
        }
        CHECK.dueThrowOutside("failed(k, 0)", 14, IndexOutOfBoundsException.class, k -> x.failed(k, 0));
        CHECK.due("worker(15, 4)", 1, () -> x.worker(15, 4));
        CHECK.due("worker(14, 4)", 0, () -> x.worker(14, 4));
    }

    /** A chain of states of workers 0, 2, 0 and 3; told in another order than they happen. */
    private static void inTheOrderInWhichTheyHappened() {
        CHECK.says("Of the k-th one the worker (what 0), the level (1), all turns before it (2)");
        ExploreShares x = Made.chain(4, 1, 4);
        x.fail(1, 3, 1);
        x.fail(0, 2, 1);
        x.fail(2, 1, 1);
        x.fail(3, 2, 1);
        x.run(1);
        // State 1 is worker 2's. When that has failed it is worker 3's; state 2 is worker 0's.
        dueFailing(x, 0, 2, 1, 2);
        // State 1 leads over to worker 0. There are two turns in level 1, and worker 0 has state 2 in level 2.
        dueFailing(x, 1, 0, 2, 4);
        // Worker 1 has state 2 now, which leads to state 3 of worker 3: that fails when it takes it out.
        dueFailing(x, 2, 3, 2, 5);
        CHECK.due("count(10), the last one does not fail", 3, () -> x.count(10));
        CHECK.due("count(9)", 1, () -> x.count(9));
        CHECK.due("worker(1, 3)", 4, () -> x.worker(1, 3));
        CHECK.due("count(7)", 7, () -> x.count(7));
    }

    /** Two moves of state 0 to itself for each worker, then it fails: turns of all that were before count. */
    private static void allTurnsBeforeIt() {
        CHECK.says("All turns before it (2)");
        ExploreShares x = Made.withMoves(5, 1, 1, new int[][] {{0, 0}, {0, 0}, {0, 0}});
        for (int w = 0; w < 5; w++) {
            x.fail(w, 0, 3);
        }
        x.run(1);
        for (int k = 0; k < 4; k++) {
            dueFailing(x, k, k, 0, 2 * (k + 1));
        }
        CHECK.due("count(7)", 11, () -> x.count(7));
        CHECK.due("times(0)", 5, () -> x.times(0));
    }

    private static void countedFromZeroInEachRun() {
        CHECK.says("Runs all, from the beginning: no failings at first");
        ExploreShares x = Made.star(3, 1, 3);
        x.fail(0, 0, 1);
        for (int again = 0; again < 40; again++) {
            x.run(again);
            CHECK.due("count(10)", 1, () -> x.count(10));
            dueFailing(x, 0, 0, 0, 0);
        }
        CHECK.dueThrow("failed(1, 0)", IndexOutOfBoundsException.class, () -> x.failed(1, 0));
    }
}
