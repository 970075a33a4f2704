/** The edges of promise 1, a new object. */
public final class Promise01NewObjectTest {
    private static final Check CHECK = new Check("Promise01NewObjectTest");

    public static void main(String[] args) {
        workersFromOneToSixteen();
        workersNextToTheseAndBelowZero();
        workersThatWrapAround();
        queuesFromOneToEight();
        queuesNextToTheseAndBelowZero();
        queuesThatWrapAround();
        workersAndQueuesAreNotMixedUp();
        queuesHoldAsManyAsTold();
        noStates();
        CHECK.end();
    }

    private static void dueWorkers(int told, int want) {
        ExploreShares x = new ExploreShares(told, 1);
        CHECK.due("count(0) of " + told + " workers", want, () -> x.count(0));
        CHECK.due("count(9) of " + told + " workers", want, () -> x.count(9));
        CHECK.due("worker(" + (want - 1) + ", 4) of " + told + " workers", 1, () -> x.worker(want - 1, 4));
        CHECK.dueThrow("worker(" + want + ", 4) of " + told + " workers", IndexOutOfBoundsException.class,
                () -> x.worker(want, 4));
    }

    private static void dueQueue(int told, int want) {
        ExploreShares x = new ExploreShares(1, told);
        CHECK.due("count(1) of queue " + told, want, () -> x.count(1));
    }

    private static void workersFromOneToSixteen() {
        CHECK.says("W is 1 + (workers - 1) modulo 16");
        for (int workers = 1; workers <= 16; workers++) {
            dueWorkers(workers, workers);
        }
    }

    private static void workersNextToTheseAndBelowZero() {
        CHECK.says("W is 1 + (workers - 1) modulo 16 (rests not below 0)");
        int[][] rows = {{17, 1}, {18, 2}, {32, 16}, {33, 1}, {0, 16}, {-1, 15}, {-2, 14}, {-14, 2}, {-15, 1},
            {-16, 16}, {-17, 15}, {-31, 1}, {-32, 16}};
        for (int[] row : rows) {
            dueWorkers(row[0], row[1]);
        }
    }

    private static void workersThatWrapAround() {
        CHECK.says("W is 1 + (workers - 1) modulo 16, of the first and last ints");
        dueWorkers(Integer.MAX_VALUE, 15);
        dueWorkers(Integer.MAX_VALUE - 14, 1);
        dueWorkers(Integer.MAX_VALUE - 15, 16);
        dueWorkers(Integer.MIN_VALUE, 16);
        dueWorkers(Integer.MIN_VALUE + 1, 1);
    }

    private static void queuesFromOneToEight() {
        CHECK.says("Q is 1 + (queue - 1) modulo 8");
        for (int queue = 1; queue <= 8; queue++) {
            dueQueue(queue, queue);
        }
    }

    private static void queuesNextToTheseAndBelowZero() {
        CHECK.says("Q is 1 + (queue - 1) modulo 8 (rests not below 0)");
        int[][] rows = {{9, 1}, {10, 2}, {16, 8}, {17, 1}, {0, 8}, {-1, 7}, {-6, 2}, {-7, 1}, {-8, 8}, {-9, 7},
            {-15, 1}, {-16, 8}};
        for (int[] row : rows) {
            dueQueue(row[0], row[1]);
        }
    }

    private static void queuesThatWrapAround() {
        CHECK.says("Q is 1 + (queue - 1) modulo 8, of the first and last ints");
        dueQueue(Integer.MAX_VALUE, 7);
        dueQueue(Integer.MAX_VALUE - 6, 1);
        dueQueue(Integer.MAX_VALUE - 7, 8);
        dueQueue(Integer.MIN_VALUE, 8);
        dueQueue(Integer.MIN_VALUE + 1, 1);
    }

    private static void workersAndQueuesAreNotMixedUp() {
        CHECK.says("W of workers, Q of queue");
        ExploreShares x = new ExploreShares(12, 5);
        CHECK.due("count(0) of (12, 5)", 12, () -> x.count(0));
        CHECK.due("count(1) of (12, 5)", 5, () -> x.count(1));
        ExploreShares y = new ExploreShares(0, 0);
        CHECK.due("count(0) of (0, 0)", 16, () -> y.count(0));
        CHECK.due("count(1) of (0, 0)", 8, () -> y.count(1));
    }

    /** Of three workers state 0 is worker 0's, state 1 worker 2's: 300 moves fill its queue in some run. */
    private static void queuesHoldAsManyAsTold() {
        CHECK.says("An IN-QUEUE of at most Q states");
        for (int told = -7; told <= 8; told++) {
            ExploreShares x = Made.withStates(3, told, 2);
            for (int m = 0; m < 300; m++) {
                x.move(0, 1);
            }
            int most = 0;
            for (int seed = 0; seed < 80; seed++) {
                x.run(seed);
                most = Math.max(most, x.count(8));
            }
            CHECK.due("the most of 80 runs of queue " + told, Integer.toString(x.count(1)), Integer.toString(most));
        }
    }

    private static void noStates() {
        CHECK.says("No states.");
        ExploreShares x = new ExploreShares(16, 8);
        CHECK.due("count(2)", 0, () -> x.count(2));
        CHECK.due("count(3)", 0, () -> x.count(3));
        CHECK.due("count(4)", 0, () -> x.count(4));
        CHECK.dueThrow("level(0)", IndexOutOfBoundsException.class, () -> x.level(0));
        CHECK.dueThrow("owner(0)", IndexOutOfBoundsException.class, () -> x.owner(0));
        CHECK.dueThrow("times(0)", IndexOutOfBoundsException.class, () -> x.times(0));
        CHECK.dueThrow("way(0, 0)", IndexOutOfBoundsException.class, () -> x.way(0, 0));
        CHECK.dueThrow("move(0, 0)", IllegalArgumentException.class, () -> x.move(0, 0));
        CHECK.dueThrow("run(0)", IllegalStateException.class, () -> x.run(0));
        CHECK.due("state()", 0, x::state);
    }
}
