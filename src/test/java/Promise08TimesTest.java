/** The edges of promise 8, times. */
public final class Promise08TimesTest {
    private static final Check CHECK = new Check("Promise08TimesTest");

    public static void main(String[] args) {
        noSuchState();
        beforeARun();
        neverCame();
        withoutMoves();
        onceForAllItsMoves();
        onceThoughItStalls();
        onceMoreWithEachFailing();
        notLookedAtBeforeTheFailing();
        countedFromZeroInEachRun();
        CHECK.end();
    }

    private static void noSuchState() {
        CHECK.says("IndexOutOfBoundsException, when there is no such state.");
        for (int states : new int[] {0, 1, 5, 199, 200}) {
            ExploreShares x = Made.withStates(2, 2, states);
            CHECK.dueThrowOutside("times before a run", states - 1, IndexOutOfBoundsException.class, x::times);
            if (states > 0) {
                x.run(1);
                CHECK.dueThrowOutside("times after a run", states - 1, IndexOutOfBoundsException.class, x::times);
                CHECK.due("times(0)", 1, () -> x.times(0));
            }
        }
    }

    private static void beforeARun() {
        CHECK.says("0 before a run");
        ExploreShares x = Made.chain(2, 2, 3);
        CHECK.due("times(0)", 0, () -> x.times(0));
        CHECK.due("times(2)", 0, () -> x.times(2));
        x.run(1);
        CHECK.due("times(2) after a run", 1, () -> x.times(2));
        x.fail(0, 0, 0);
        CHECK.due("times(0) when it is gone", 0, () -> x.times(0));
        CHECK.due("times(2) when it is gone", 0, () -> x.times(2));
    }

    private static void neverCame() {
        CHECK.says("How often a state was looked at: never");
        ExploreShares x = Made.withMoves(2, 2, 4, new int[][] {{1, 0}, {2, 3}});
        x.run(1);
        int[] want = {1, 0, 0, 0};
        for (int s = 0; s < 4; s++) {
            int state = s;
            CHECK.due("times(" + s + ")", want[s], () -> x.times(state));
        }
    }

    private static void withoutMoves() {
        CHECK.says("A state without moves is looked at when its turn comes: that turn has no other effect.");
        ExploreShares x = Made.star(1, 1, 3);
        CHECK.due("run(1)", 4, () -> x.run(1));
        CHECK.due("times(1)", 1, () -> x.times(1));
        CHECK.due("times(3)", 1, () -> x.times(3));
        CHECK.due("count(7), three moves and three without", 6, () -> x.count(7));
        CHECK.due("worker(0, 1)", 0, () -> x.worker(0, 1));
        CHECK.due("worker(0, 2)", 0, () -> x.worker(0, 2));
        CHECK.due("count(6)", 2, () -> x.count(6));
    }

    private static void onceForAllItsMoves() {
        CHECK.says("The first one of a state, when it is tried first: the state is LOOKED AT once more");
        ExploreShares x = Made.withMoves(1, 1, 2, new int[][] {{0, 1}, {0, 1}, {0, 0}, {0, 1}, {1, 0}, {1, 1}});
        x.run(1);
        CHECK.due("times(0) with four moves", 1, () -> x.times(0));
        CHECK.due("times(1) with two moves", 1, () -> x.times(1));
        CHECK.due("count(7)", 6, () -> x.count(7));
    }

    /**
     * Of three workers state 0 is worker 0's, state 5 worker 1's, states 1, 2 worker 2's. In level 1 workers 1
     * and 2 look at 5 and 1, and both lead to states of worker 0. Its queue of one is full when worker 2 tries.
     */
    private static void onceThoughItStalls() {
        CHECK.says("The first one of a state, when it is tried first: a stall leaves it tried");
        ExploreShares x = Made.withMoves(3, 1, 6, new int[][] {{0, 1}, {0, 5}, {1, 0}, {5, 0}});
        int seed = Seeds.where(
                new int[] {1, 0}, // 0 -> 1 goes to worker 2
                new int[] {2, 1}, // worker 2 takes it out
                new int[] {1, 0}, // 0 -> 5 goes to worker 1
                new int[] {1, 0}, // worker 1 takes it out
                new int[] {2, 0}, // level 1: worker 1 puts 0 into worker 0's queue
                new int[] {2, 1}, // worker 2 stalls
                new int[] {2, 1}, // and again
                new int[] {2, 0}); // worker 0 takes 0 out; worker 2 alone is left
        CHECK.due("run", 3, () -> x.run(seed));
        CHECK.due("worker(2, 2)", 2, () -> x.worker(2, 2));
        CHECK.due("times(1)", 1, () -> x.times(1));
        CHECK.due("times(5)", 1, () -> x.times(5));
        CHECK.due("count(7)", 10, () -> x.count(7));
    }

    /** Each worker in turn has state 0, takes one move to itself and fails before the second one. */
    private static void onceMoreWithEachFailing() {
        CHECK.says("How often states were looked at .. stay");
        for (int failing = 0; failing <= 15; failing++) {
            ExploreShares x = Made.withMoves(16, 1, 1, new int[][] {{0, 0}, {0, 0}});
            for (int w = 0; w < failing; w++) {
                x.fail(w, 0, 2);
            }
            x.run(failing);
            CHECK.due("times(0) with " + failing + " failings", failing + 1, () -> x.times(0));
        }
    }

    private static void notLookedAtBeforeTheFailing() {
        CHECK.says("Fails in its turn number n .. instead of that turn");
        ExploreShares x = Made.withMoves(2, 1, 1, new int[][] {{0, 0}});
        x.fail(0, 0, 1);
        x.run(1);
        CHECK.due("count(10)", 1, () -> x.count(10));
        CHECK.due("times(0)", 1, () -> x.times(0));
    }

    private static void countedFromZeroInEachRun() {
        CHECK.says("Runs all, from the beginning: 0 at first");
        ExploreShares x = Made.chain(4, 1, 4);
        for (int again = 0; again < 5; again++) {
            x.run(again);
            CHECK.due("times(0)", 1, () -> x.times(0));
            CHECK.due("times(3)", 1, () -> x.times(3));
        }
    }
}
