/** Runs in which workers fail: promises 4, 5, 7, 8, 10, 11 and 13. */
public final class FailingTest {
    private static final Check CHECK = new Check("FailingTest");

    public static void main(String[] args) {
        failsInItsFirstTurn();
        failsInALaterTurn();
        failsInALaterLevel();
        latestWordsAndTakenBack();
        theLastOneDoesNotFail();
        ownersGoRound();
        turnsAreCountedAnew();
        nothingFailsWhatIsNotReached();
        everyRunBeginsWithAllLive();
        wrongNumbers();
        CHECK.end();
    }

    private static void failing(String when, ExploreShares x, int k, int... want) {
        for (int what = 0; what < want.length; what++) {
            int asked = what;
            CHECK.due(when + ": failed(" + k + ", " + what + ")", want[what], () -> x.failed(k, asked));
        }
    }

    /** Worker 0 owns state 0, so that the very first turn is its own. */
    private static void failsInItsFirstTurn() {
        ExploreShares x = Made.star(2, 2, 3);
        x.fail(0, 0, 1);
        CHECK.due("first turn: run(3)", 4, () -> x.run(3));
        failing("first turn", x, 0, 0, 0, 0);
        CHECK.due("first turn: times(0)", 1, () -> x.times(0));
        for (int s = 0; s < 4; s++) {
            int state = s;
            CHECK.due("first turn: owner(" + s + ")", 1, () -> x.owner(state));
        }
        int[][] workers = {{0, 0, 0, -1, 0}, {6, 0, 0, 4, 1}};
        for (int w = 0; w < 2; w++) {
            for (int what = 0; what < 5; what++) {
                int worker = w;
                int asked = what;
                CHECK.due("first turn: worker(" + w + ", " + what + ")", workers[w][what],
                        () -> x.worker(worker, asked));
            }
        }
        CHECK.due("first turn: live", 1, () -> x.count(9));
        CHECK.due("first turn: failings", 1, () -> x.count(10));
        CHECK.due("first turn: turns", 6, () -> x.count(7));
    }

    /** Worker 0 owns the states 0, 1 and 2 of two workers: nobody else has a turn before it fails. */
    private static void failsInALaterTurn() {
        ExploreShares x = Made.withMoves(2, 1, 3, new int[][] {{0, 1}, {0, 2}, {0, 1}});
        x.fail(0, 0, 3);
        CHECK.due("later turn: run(8)", 3, () -> x.run(8));
        failing("later turn", x, 0, 0, 0, 2);
        CHECK.due("later turn: times(0)", 2, () -> x.times(0));
        CHECK.due("later turn: times(1)", 1, () -> x.times(1));
        CHECK.due("later turn: turns of worker 0", 2, () -> x.worker(0, 0));
        CHECK.due("later turn: turns of worker 1", 5, () -> x.worker(1, 0));
        CHECK.due("later turn: turns", 7, () -> x.count(7));
    }

    /** In level 1 worker 0 looks at state 1, and fails before it looks at state 2. */
    private static void failsInALaterLevel() {
        ExploreShares x = Made.withMoves(2, 1, 3, new int[][] {{0, 1}, {0, 2}});
        x.fail(0, 1, 2);
        x.run(8);
        failing("later level", x, 0, 0, 1, 3);
        CHECK.due("later level: times(0)", 1, () -> x.times(0));
        CHECK.due("later level: times(1)", 2, () -> x.times(1));
        CHECK.due("later level: times(2)", 1, () -> x.times(2));
        CHECK.due("later level: levels", 2, () -> x.count(6));
    }

    private static void latestWordsAndTakenBack() {
        ExploreShares x = Made.withMoves(2, 1, 3, new int[][] {{0, 1}, {0, 2}, {0, 1}});
        x.fail(0, 0, 3);
        x.fail(0, 0, 2);
        x.run(8);
        failing("latest words", x, 0, 0, 0, 1);
        x.fail(0, 0, 0);
        x.run(8);
        CHECK.due("taken back: failings", 0, () -> x.count(10));
        CHECK.due("taken back: live", 2, () -> x.count(9));
        CHECK.due("taken back: owner(0)", 0, () -> x.owner(0));
        x.fail(0, 0, 1);
        x.fail(0, 1, 1);
        x.fail(1, 0, 5);
        x.fail(0, 0, 0);
        x.run(8);
        failing("one of three taken back", x, 0, 0, 1, 3);
    }

    private static void theLastOneDoesNotFail() {
        ExploreShares x = Made.star(3, 1, 5);
        for (int w = 0; w < 3; w++) {
            x.fail(w, 0, 1);
            x.fail(w, 1, 1);
        }
        CHECK.due("the last one: run(2)", 6, () -> x.run(2));
        CHECK.due("the last one: failings", 2, () -> x.count(10));
        CHECK.due("the last one: live", 1, () -> x.count(9));
        failing("the last one", x, 0, 0, 0, 0);
        failing("the last one", x, 1, 1, 0, 0);
        CHECK.due("the last one: worker(2, 3)", 6, () -> x.worker(2, 3));
        CHECK.due("the last one: owner(0)", 2, () -> x.owner(0));
        ExploreShares y = Made.star(1, 1, 2);
        y.fail(0, 0, 1);
        CHECK.due("the only one: run(2)", 3, () -> y.run(2));
        CHECK.due("the only one: failings", 0, () -> y.count(10));
    }

    /** Of three workers state 1 is worker 2's: when that fails, worker 0 is the next one behind it. */
    private static void ownersGoRound() {
        ExploreShares x = Made.chain(3, 1, 3);
        x.fail(2, 1, 1);
        x.run(6);
        failing("round", x, 0, 2, 1, 2);
        CHECK.due("round: owner(1)", 0, () -> x.owner(1));
        CHECK.due("round: worker(0, 3)", 3, () -> x.worker(0, 3));
        CHECK.due("round: worker(1, 3)", 0, () -> x.worker(1, 3));
        CHECK.due("round: worker(2, 3)", -1, () -> x.worker(2, 3));
    }

    /**
     * Of three workers state 0 is worker 0's. It fails in its turn 3, after which worker 1 has state 0.
     * Worker 2 has had at most as many turns as states 0 had put out for it; counted anew it never gets to 4.
     */
    private static void turnsAreCountedAnew() {
        ExploreShares x = Made.withMoves(3, 8, 2, new int[][] {{0, 1}, {0, 1}, {0, 1}});
        x.fail(0, 0, 3);
        x.fail(2, 0, 4);
        for (int seed = 0; seed < 30; seed++) {
            x.run(seed);
            CHECK.due("counted anew: failings", 1, () -> x.count(10));
            CHECK.due("counted anew: times(0)", 2, () -> x.times(0));
        }
    }

    private static void nothingFailsWhatIsNotReached() {
        ExploreShares x = Made.star(2, 1, 3);
        x.fail(0, 2, 1);
        x.fail(1, 199, 1);
        x.fail(0, 0, 1000);
        x.run(1);
        CHECK.due("not reached: failings", 0, () -> x.count(10));
        CHECK.due("not reached: told", 3, () -> x.count(4));
        CHECK.dueThrow("not reached: failed(0, 0)", IndexOutOfBoundsException.class, () -> x.failed(0, 0));
    }

    private static void everyRunBeginsWithAllLive() {
        ExploreShares x = Made.star(2, 2, 3);
        x.fail(0, 0, 1);
        for (int again = 0; again < 3; again++) {
            x.run(3);
            CHECK.due("again: failings", 1, () -> x.count(10));
            CHECK.due("again: turns", 6, () -> x.count(7));
            CHECK.due("again: live", 1, () -> x.count(9));
        }
    }

    private static void wrongNumbers() {
        ExploreShares x = Made.star(2, 2, 3);
        x.fail(0, 0, 1);
        CHECK.dueThrow("failed(0, 0) before a run", IndexOutOfBoundsException.class, () -> x.failed(0, 0));
        x.run(3);
        for (int what : new int[] {-1, 3, Integer.MIN_VALUE, Integer.MAX_VALUE}) {
            CHECK.dueThrow("failed(0, " + what + ")", IndexOutOfBoundsException.class, () -> x.failed(0, what));
        }
        for (int k : new int[] {-1, 1, Integer.MIN_VALUE, Integer.MAX_VALUE}) {
            CHECK.dueThrow("failed(" + k + ", 0)", IndexOutOfBoundsException.class, () -> x.failed(k, 0));
        }
    }
}
