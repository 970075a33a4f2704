/** Runs without failings: promises 5 to 8, 10, 12 and 13. */
public final class RunTest {
    private static final Check CHECK = new Check("RunTest");

    public static void main(String[] args) {
        owners();
        oneState();
        oneWorker();
        longChain();
        turnsByTheSeed();
        stalls();
        foundStatesGoToTheirOwners();
        sameForEverySeed();
        wrongNumbers();
        CHECK.end();
    }

    /** By hand: x / 65536 is 0, 16838, 908, 17747 for the states 0 to 3. */
    private static void owners() {
        int[] drawn = {0, 16838, 908, 17747};
        for (int workers = 1; workers <= 16; workers++) {
            ExploreShares x = Made.withStates(workers, 1, 4);
            for (int s = 0; s < 4; s++) {
                int state = s;
                CHECK.due("W " + workers + " owner(" + s + ")", drawn[s] % workers, () -> x.owner(state));
            }
        }
    }

    private static void oneState() {
        ExploreShares x = Made.withStates(4, 1, 1);
        CHECK.due("one state: run(0)", 1, () -> x.run(0));
        CHECK.due("one state: level(0)", 0, () -> x.level(0));
        CHECK.due("one state: times(0)", 1, () -> x.times(0));
        CHECK.due("one state: turns", 1, () -> x.count(7));
        CHECK.due("one state: levels", 1, () -> x.count(6));
        CHECK.due("one state: most in a queue", 0, () -> x.count(8));
        CHECK.due("one state: size(0)", 1, () -> x.size(0));
        CHECK.due("one state: way(0, 0)", 0, () -> x.way(0, 0));
        CHECK.due("one state: again run(0)", 1, () -> x.run(0));
        CHECK.due("one state: times(0) of the new run", 1, () -> x.times(0));
        CHECK.due("one state: turns of the new run", 1, () -> x.count(7));
    }

    /** Six moves can be taken, and states 3 and 4 have none: a turn each. State 5 never comes. */
    private static void oneWorker() {
        int[][] moves = {{0, 2}, {0, 1}, {0, 2}, {1, 3}, {2, 4}, {2, 0}, {5, 0}};
        ExploreShares x = Made.withMoves(1, 1, 6, moves);
        CHECK.due("one worker: run(7)", 5, () -> x.run(7));
        int[] levels = {0, 1, 1, 2, 2, -1};
        for (int s = 0; s < 6; s++) {
            int state = s;
            CHECK.due("one worker: level(" + s + ")", levels[s], () -> x.level(state));
            CHECK.due("one worker: times(" + s + ")", s == 5 ? 0 : 1, () -> x.times(state));
            CHECK.due("one worker: owner(" + s + ")", 0, () -> x.owner(state));
        }
        int[] worker = {8, 0, 0, 5, 1};
        for (int what = 0; what < 5; what++) {
            int asked = what;
            CHECK.due("one worker: worker(0, " + what + ")", worker[what], () -> x.worker(0, asked));
        }
        int[] counts = {1, 1, 6, 7, 0, 5, 3, 8, 0, 1, 0};
        for (int what = 0; what < 11; what++) {
            int asked = what;
            CHECK.due("one worker: count(" + what + ")", counts[what], () -> x.count(asked));
        }
        int[] sizes = {1, 2, 2};
        for (int k = 0; k < 3; k++) {
            int level = k;
            CHECK.due("one worker: size(" + k + ")", sizes[k], () -> x.size(level));
        }
    }

    private static void longChain() {
        ExploreShares x = Made.chain(16, 8, 200);
        CHECK.due("chain: run(12)", 200, () -> x.run(12));
        CHECK.due("chain: levels", 200, () -> x.count(6));
        CHECK.due("chain: level(199)", 199, () -> x.level(199));
        CHECK.due("chain: size(199)", 1, () -> x.size(199));
        CHECK.dueThrow("chain: size(200)", IndexOutOfBoundsException.class, () -> x.size(200));
        CHECK.due("chain: way(199, 199)", 199, () -> x.way(199, 199));
        CHECK.due("chain: way(199, 77)", 77, () -> x.way(199, 77));
        CHECK.dueThrow("chain: way(199, 200)", IndexOutOfBoundsException.class, () -> x.way(199, 200));
    }

    /**
     * Two workers, state 0 of worker 0, moves to states 3, 3, 3 of worker 1, and no room but for one.
     * Seed 0: the numbers x / 65536 are 0, 21468, 9988, 22117, 3498, 16927, .. (the C library's small rand).
     * Level 0: worker 0 alone puts 3; of two busy ones number 21468 % 2 = 0 stalls; 9988 % 2 = 0 stalls;
     * 22117 % 2 = 1 takes out; worker 0 alone puts; then of two 16927 % 2 = 1 takes out; and so on.
     */
    private static void turnsByTheSeed() {
        ExploreShares x = Made.withMoves(2, 1, 4, new int[][] {{0, 3}, {0, 3}, {0, 3}});
        CHECK.due("by the seed: run(0)", 2, () -> x.run(0));
        CHECK.due("by the seed: stalls", 2, () -> x.worker(0, 2));
        CHECK.due("by the seed: turns of worker 0", 5, () -> x.worker(0, 0));
        CHECK.due("by the seed: taken by worker 1", 3, () -> x.worker(1, 1));
        CHECK.due("by the seed: turns of worker 1", 4, () -> x.worker(1, 0));
        CHECK.due("by the seed: times(0), stalls or not", 1, () -> x.times(0));
        CHECK.due("by the seed: most in a queue", 1, () -> x.count(8));
        int turns = x.count(7);
        CHECK.due("by the seed: run of the same 31 bits", 2, () -> x.run(Integer.MIN_VALUE));
        CHECK.due("by the seed: turns of the same 31 bits", turns, () -> x.count(7));
    }

    /** With a room of eight no move can stall before the ninth. */
    private static void stalls() {
        ExploreShares x = Made.withStates(2, 8, 4);
        for (int m = 0; m < 8; m++) {
            x.move(0, 3);
        }
        for (int seed = 0; seed < 20; seed++) {
            x.run(seed);
            CHECK.due("room of eight: stalls", 0, () -> x.worker(0, 2));
            CHECK.due("room of eight: taken", 8, () -> x.worker(1, 1));
        }
        ExploreShares y = Made.withStates(2, 3, 4);
        for (int m = 0; m < 40; m++) {
            y.move(0, 3);
        }
        y.run(5);
        CHECK.due("room of three: most in a queue", 3, () -> y.count(8));
        CHECK.due("room of three: turns are moves and stalls", 40 + y.worker(0, 2), () -> y.worker(0, 0));
        CHECK.due("room of three: it does stall", 1, () -> y.worker(0, 2) > 0 ? 1 : 0);
        CHECK.due("room of three: looked at once all the same", 1, () -> y.times(0));
    }

    /** State 3 of worker 1 leads back to 0 of worker 0: that goes through the queue though 0 is known. */
    private static void foundStatesGoToTheirOwners() {
        ExploreShares x = Made.withMoves(2, 2, 4, new int[][] {{0, 1}, {0, 2}, {0, 3}, {3, 0}, {3, 3}});
        CHECK.due("to owners: run(9)", 4, () -> x.run(9));
        CHECK.due("to owners: taken by worker 0", 1, () -> x.worker(0, 1));
        CHECK.due("to owners: taken by worker 1", 1, () -> x.worker(1, 1));
        CHECK.due("to owners: owned by worker 0", 3, () -> x.worker(0, 3));
        CHECK.due("to owners: owned by worker 1", 1, () -> x.worker(1, 3));
        CHECK.due("to owners: turns of worker 1", 3, () -> x.worker(1, 0));
        CHECK.due("to owners: levels", 2, () -> x.count(6));
    }

    private static void sameForEverySeed() {
        ExploreShares x = Made.star(7, 1, 60);
        for (int s = 1; s <= 60; s++) {
            x.move(s, s * 7 % 61);
        }
        x.state();
        for (int seed : new int[] {0, 1, -1, 77, Integer.MAX_VALUE, Integer.MIN_VALUE}) {
            CHECK.due("every seed: run(" + seed + ")", 61, () -> x.run(seed));
            CHECK.due("every seed: size(1)", 60, () -> x.size(1));
            CHECK.due("every seed: level(60)", 1, () -> x.level(60));
            CHECK.due("every seed: level(61), never found", -1, () -> x.level(61));
            CHECK.due("every seed: count(6)", 2, () -> x.count(6));
        }
    }

    private static void wrongNumbers() {
        ExploreShares x = Made.star(3, 2, 2);
        for (int round = 0; round < 2; round++) {
            for (int s : new int[] {-1, 3, Integer.MIN_VALUE, Integer.MAX_VALUE}) {
                CHECK.dueThrow("level(" + s + ")", IndexOutOfBoundsException.class, () -> x.level(s));
                CHECK.dueThrow("owner(" + s + ")", IndexOutOfBoundsException.class, () -> x.owner(s));
                CHECK.dueThrow("times(" + s + ")", IndexOutOfBoundsException.class, () -> x.times(s));
                CHECK.dueThrow("way(" + s + ", 0)", IndexOutOfBoundsException.class, () -> x.way(s, 0));
                CHECK.dueThrow("worker(" + s + ", 0)", IndexOutOfBoundsException.class, () -> x.worker(s, 0));
                CHECK.dueThrow("size(" + s + ")", IndexOutOfBoundsException.class, () -> x.size(s));
            }
            for (int what : new int[] {-1, 5, Integer.MIN_VALUE, Integer.MAX_VALUE}) {
                CHECK.dueThrow("worker(0, " + what + ")", IndexOutOfBoundsException.class, () -> x.worker(0, what));
            }
            for (int what : new int[] {-1, 11, Integer.MIN_VALUE, Integer.MAX_VALUE}) {
                CHECK.due("count(" + what + ")", -1, () -> x.count(what));
            }
            x.run(4);
        }
    }
}
