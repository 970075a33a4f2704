/** The edges of promise 13, count. */
public final class Promise13CountTest {
    private static final Check CHECK = new Check("Promise13CountTest");

    public static void main(String[] args) {
        anotherWhat();
        ofANewObject();
        beforeARun();
        whenItIsGone();
        afterARun();
        allFull();
        theMostInOneQueue();
        theMostOfAllTimes();
        CHECK.end();
    }

    private static void dueCounts(ExploreShares x, int... want) {
        for (int what = 0; what <= 10; what++) {
            int asked = what;
            CHECK.due("count(" + what + ")", want[what], () -> x.count(asked));
        }
        dueNone(x);
    }

    private static void dueNone(ExploreShares x) {
        int[] others = {-1, 11, -2, 12, 100, Integer.MIN_VALUE, Integer.MIN_VALUE + 1, Integer.MAX_VALUE - 1,
            Integer.MAX_VALUE};
        for (int what : others) {
            CHECK.due("count(" + what + ")", ExploreShares.NONE, () -> x.count(what));
        }
    }

    private static void anotherWhat() {
        CHECK.says("NONE for another what");
        ExploreShares x = new ExploreShares(2, 2);
        dueNone(x);
        x.state();
        dueNone(x);
        x.run(1);
        dueNone(x);
        CHECK.due("NONE", -1, () -> ExploreShares.NONE);
    }

    private static void ofANewObject() {
        CHECK.says("5 to 8 and 10 are 0 before a run: nothing is told");
        dueCounts(new ExploreShares(5, 3), 5, 3, 0, 0, 0, 0, 0, 0, 0, 5, 0);
    }

    private static ExploreShares made() {
        ExploreShares x = Made.withMoves(2, 2, 4, new int[][] {{0, 3}, {0, 3}, {0, 1}});
        x.fail(0, 1, 1);
        x.fail(1, 5, 1);
        return x;
    }

    private static void beforeARun() {
        CHECK.says("5 to 8 and 10 are 0 before a run");
        dueCounts(made(), 2, 2, 4, 3, 2, 0, 0, 0, 0, 2, 0);
    }

    private static void whenItIsGone() {
        CHECK.says("5 to 8 and 10 are 0 before a run, and when what was run is gone");
        ExploreShares x = made();
        x.run(1);
        x.state();
        dueCounts(x, 2, 2, 5, 3, 2, 0, 0, 0, 0, 2, 0);
        x.run(1);
        x.move(1, 1);
        dueCounts(x, 2, 2, 5, 4, 2, 0, 0, 0, 0, 2, 0);
        x.run(1);
        x.fail(0, 6, 1);
        dueCounts(x, 2, 2, 5, 4, 3, 0, 0, 0, 0, 2, 0);
    }

    /** Five turns in level 0; in level 1 worker 0 fails instead of its turn, and worker 1 has states 1 and 3. */
    private static void afterARun() {
        CHECK.says("States that came (5), levels (6), turns (7), the most in one queue (8), live (9), failings (10)");
        ExploreShares x = made();
        int seed = Seeds.where(
                new int[] {1, 0}, // worker 0 puts 3
                new int[] {2, 0}, // and once more
                new int[] {2, 0}, // and takes the move to its own state 1; worker 1 alone takes two out
                new int[] {1, 0},
                new int[] {1, 0},
                new int[] {2, 0}); // level 1: worker 0 fails
        x.run(seed);
        dueCounts(x, 2, 2, 4, 3, 2, 3, 2, 7, 2, 1, 1);
    }

    /** Of 16 workers each but the last one fails in level 0, where state 0 has come to it: 16 live, then one. */
    private static void allFull() {
        CHECK.says("W (0), Q (1), states (2), moves (3), failings told (4), with all as many as can be");
        ExploreShares x = Made.chain(16, 8, 200);
        for (int w = 0; w < 15; w++) {
            x.fail(w, 0, 1);
        }
        for (int k = 1; k <= 5; k++) {
            x.fail(15, k, 1);
        }
        dueCounts(x, 16, 8, 200, 199, 20, 0, 0, 0, 0, 16, 0);
        x.run(1);
        dueCounts(x, 16, 8, 200, 199, 20, 200, 200, 200, 0, 1, 15);
    }

    /** Of four workers states 1 and 3 are of workers 2 and 3: one in each queue is not two in one. */
    private static void theMostInOneQueue() {
        CHECK.says("The most states that ever were in one queue (8)");
        ExploreShares x = Made.withMoves(4, 8, 4, new int[][] {{0, 1}, {0, 3}});
        int seed = Seeds.where(new int[] {1, 0}, new int[] {2, 0});
        x.run(seed);
        CHECK.due("count(8)", 1, () -> x.count(8));
        ExploreShares y = Made.withMoves(4, 8, 4, new int[][] {{0, 1}, {0, 1}, {0, 1}});
        int threeFirst = Seeds.where(new int[] {1, 0}, new int[] {2, 0}, new int[] {2, 0});
        y.run(threeFirst);
        CHECK.due("count(8), three put first", 3, () -> y.count(8));
        int twoThenOne = Seeds.where(new int[] {1, 0}, new int[] {2, 0}, new int[] {2, 1}, new int[] {2, 1});
        y.run(twoThenOne);
        CHECK.due("count(8), two and then one", 2, () -> y.count(8));
        int oneByOne = Seeds.where(new int[] {1, 0}, new int[] {2, 1}, new int[] {1, 0}, new int[] {2, 1});
        y.run(oneByOne);
        CHECK.due("count(8), one by one", 1, () -> y.count(8));
    }

    /** Worker 0 puts three into the queue of worker 1 and fails; in all that comes then no queue is used. */
    private static void theMostOfAllTimes() {
        CHECK.says("The most states that ever were in one queue (8): also before a failing");
        ExploreShares x = Made.withMoves(2, 8, 4, new int[][] {{0, 3}, {0, 3}, {0, 3}, {0, 3}});
        x.fail(0, 0, 4);
        x.run(Seeds.where(new int[] {1, 0}, new int[] {2, 0}, new int[] {2, 0}, new int[] {2, 0}));
        CHECK.due("count(10)", 1, () -> x.count(10));
        CHECK.due("worker(1, 1)", 0, () -> x.worker(1, 1));
        CHECK.due("count(8)", 3, () -> x.count(8));
    }
}
