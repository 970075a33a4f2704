/** The edges of promise 10, worker. */
public final class Promise10WorkerTest {
    private static final Check CHECK = new Check("Promise10WorkerTest");

    public static void main(String[] args) {
        noSuchWorker();
        noSuchWhat();
        beforeARun();
        oneWithNothingToDo();
        takenAndStalls();
        notLive();
        whatANotLiveOneDidStays();
        statesOfTheEnd();
        countedFromZeroInEachRun();
        CHECK.end();
    }

    private static void dueWorker(ExploreShares x, int worker, int... want) {
        for (int what = 0; what < 5; what++) {
            int asked = what;
            CHECK.due("worker(" + worker + ", " + what + ")", want[what], () -> x.worker(worker, asked));
        }
    }

    private static void noSuchWorker() {
        CHECK.says("IndexOutOfBoundsException, when there is no such worker");
        for (int workers : new int[] {1, 2, 15, 16}) {
            ExploreShares x = Made.star(workers, 1, 3);
            for (int what = 0; what <= 5; what++) {
                int asked = what;
                CHECK.dueThrowOutside("worker(w, " + what + ") of " + workers, workers - 1,
                        IndexOutOfBoundsException.class, w -> x.worker(w, asked));
            }
            CHECK.due("worker(0, 4) of " + workers, 1, () -> x.worker(0, 4));
            CHECK.due("worker(last, 4) of " + workers, 1, () -> x.worker(workers - 1, 4));
            x.run(1);
            CHECK.dueThrowOutside("worker(w, 0) after a run of " + workers, workers - 1,
                    IndexOutOfBoundsException.class, w -> x.worker(w, 0));
        }
    }

    private static void noSuchWhat() {
        CHECK.says("IndexOutOfBoundsException, when there is no such .. what");
        ExploreShares x = Made.star(2, 1, 3);
        x.fail(0, 1, 1);
        for (int w = 0; w < 2; w++) {
            int worker = w;
            CHECK.dueThrowOutside("worker(" + w + ", what) before a run", 4, IndexOutOfBoundsException.class,
                    what -> x.worker(worker, what));
        }
        x.run(1);
        for (int w = 0; w < 2; w++) {
            int worker = w;
            CHECK.dueThrowOutside("worker(" + w + ", what) after a run", 4, IndexOutOfBoundsException.class,
                    what -> x.worker(worker, what));
        }
        CHECK.dueThrow("worker(2, 5)", IndexOutOfBoundsException.class, () -> x.worker(2, 5));
        CHECK.dueThrow("worker(-1, -1)", IndexOutOfBoundsException.class, () -> x.worker(-1, -1));
    }

    private static void beforeARun() {
        CHECK.says("Of a worker .. before anything was run");
        ExploreShares none = new ExploreShares(3, 1);
        dueWorker(none, 0, 0, 0, 0, 0, 1);
        ExploreShares x = Made.star(2, 1, 3);
        x.fail(0, 0, 1);
        dueWorker(x, 0, 0, 0, 0, 0, 1);
        dueWorker(x, 1, 0, 0, 0, 0, 1);
        x.run(1);
        dueWorker(x, 0, 0, 0, 0, -1, 0);
        x.state();
        dueWorker(x, 0, 0, 0, 0, 0, 1);
        dueWorker(x, 1, 0, 0, 0, 0, 1);
    }

    private static void oneWithNothingToDo() {
        CHECK.says("Of a worker turns .. states of the end that it owns: none");
        ExploreShares x = Made.withStates(16, 8, 1);
        x.run(1);
        dueWorker(x, 0, 1, 0, 0, 1, 1);
        for (int w = 1; w < 16; w++) {
            dueWorker(x, w, 0, 0, 0, 0, 1);
        }
    }

    /** Of two workers state 3 is worker 1's. Its queue of two is full when worker 0 tries the third move. */
    private static void takenAndStalls() {
        CHECK.says("Turns (what 0), states taken out of its queue (1), stalls (2)");
        ExploreShares x = Made.withMoves(2, 2, 4, new int[][] {{0, 3}, {0, 3}, {0, 3}});
        int seed = Seeds.where(
                new int[] {1, 0}, // worker 0 puts a first one
                new int[] {2, 0}, // and a second one
                new int[] {2, 0}, // and stalls
                new int[] {2, 1}, // worker 1 takes one out
                new int[] {2, 0}); // worker 0 puts the third one, and is done
        x.run(seed);
        dueWorker(x, 0, 4, 0, 1, 1, 1);
        dueWorker(x, 1, 4, 3, 0, 1, 1);
        CHECK.due("count(7)", 8, () -> x.count(7));
        CHECK.due("count(8)", 2, () -> x.count(8));
    }

    private static void notLive() {
        CHECK.says("NONE, when it is not live .. whether it is live (4: 1 or 0)");
        ExploreShares x = Made.star(2, 1, 3);
        x.fail(0, 0, 1);
        x.run(1);
        CHECK.due("worker(0, 3)", ExploreShares.NONE, () -> x.worker(0, 3));
        CHECK.due("worker(0, 4)", 0, () -> x.worker(0, 4));
        CHECK.due("worker(1, 3)", 4, () -> x.worker(1, 3));
        CHECK.due("worker(1, 4)", 1, () -> x.worker(1, 4));
    }

    /** Worker 0 puts one into worker 1's queue, stalls, and fails in its third turn, when that was taken out. */
    private static void whatANotLiveOneDidStays() {
        CHECK.says("Turns, stalls and what was taken stay");
        ExploreShares x = Made.withMoves(2, 1, 4, new int[][] {{0, 3}, {0, 3}, {0, 3}});
        x.fail(0, 0, 3);
        int seed = Seeds.where(
                new int[] {1, 0}, // worker 0 puts
                new int[] {2, 0}, // worker 0 stalls
                new int[] {2, 1}); // worker 1 takes out, and worker 0 alone is not done: it fails
        x.run(seed);
        dueWorker(x, 0, 2, 0, 1, -1, 0);
        // Once taken out, then three moves of state 0 that lead to its own state, and state 3 looked at.
        dueWorker(x, 1, 5, 1, 0, 2, 1);
        CHECK.due("failed(0, 2)", 3, () -> x.failed(0, 2));
        CHECK.due("count(7)", 7, () -> x.count(7));
        CHECK.due("count(8)", 1, () -> x.count(8));
    }

    /** States 4 and 5 never come, and are owned by worker 1: they are not counted. */
    private static void statesOfTheEnd() {
        CHECK.says("States of the end that it owns (3)");
        ExploreShares x = Made.withMoves(2, 1, 6, new int[][] {{0, 1}, {1, 3}, {4, 5}, {2, 5}});
        x.run(1);
        CHECK.due("owner(4)", 1, () -> x.owner(4));
        CHECK.due("worker(0, 3)", 2, () -> x.worker(0, 3));
        CHECK.due("worker(1, 3)", 1, () -> x.worker(1, 3));
    }

    private static void countedFromZeroInEachRun() {
        CHECK.says("Runs all, from the beginning: 0 at first");
        ExploreShares x = Made.withMoves(2, 2, 4, new int[][] {{0, 3}, {0, 3}});
        for (int again = 0; again < 5; again++) {
            x.run(again);
            dueWorker(x, 0, 2, 0, 0, 1, 1);
            dueWorker(x, 1, 3, 2, 0, 1, 1);
        }
    }
}
