/** The edges of promise 3, move. */
public final class Promise03MoveTest {
    private static final Check CHECK = new Check("Promise03MoveTest");

    public static void main(String[] args) {
        howManyThereAre();
        theFirstAndTheLastState();
        noSuchStateFrom();
        noSuchStateTo();
        noStatesAtAll();
        aStateThatComesLater();
        aRefusedMoveChangesNothing();
        sixHundred();
        firstOneTold();
        movesStandInTheOrderTold();
        CHECK.end();
    }

    private static void howManyThereAre() {
        CHECK.says("A move more: how many there are.");
        ExploreShares x = Made.withStates(2, 2, 2);
        CHECK.due("count(3)", 0, () -> x.count(3));
        CHECK.due("move(0, 1)", 1, () -> x.move(0, 1));
        CHECK.due("move(0, 1), the same once more", 2, () -> x.move(0, 1));
        CHECK.due("move(1, 0), back", 3, () -> x.move(1, 0));
        CHECK.due("move(1, 1), to itself", 4, () -> x.move(1, 1));
        CHECK.due("count(3)", 4, () -> x.count(3));
    }

    private static void theFirstAndTheLastState() {
        CHECK.says("IllegalArgumentException, when there are no such states: 0 and S - 1 are there");
        for (int states : new int[] {1, 2, 199, 200}) {
            ExploreShares x = Made.withStates(2, 2, states);
            int last = states - 1;
            CHECK.due("move(0, " + last + ")", 1, () -> x.move(0, last));
            CHECK.due("move(" + last + ", 0)", 2, () -> x.move(last, 0));
        }
    }

    private static void noSuchStateFrom() {
        CHECK.says("IllegalArgumentException, when there are no such states: from");
        for (int states : new int[] {1, 5, 200}) {
            ExploreShares x = Made.withStates(2, 2, states);
            CHECK.dueThrowOutside("move(from, 0)", states - 1, IllegalArgumentException.class, s -> x.move(s, 0));
            CHECK.due("count(3)", 0, () -> x.count(3));
        }
    }

    private static void noSuchStateTo() {
        CHECK.says("IllegalArgumentException, when there are no such states: to");
        for (int states : new int[] {1, 5, 200}) {
            ExploreShares x = Made.withStates(2, 2, states);
            CHECK.dueThrowOutside("move(0, to)", states - 1, IllegalArgumentException.class, s -> x.move(0, s));
            CHECK.dueThrowOutside("move(to, to)", states - 1, IllegalArgumentException.class, s -> x.move(s, s));
            CHECK.due("count(3)", 0, () -> x.count(3));
        }
    }

    private static void noStatesAtAll() {
        CHECK.says("IllegalArgumentException, when there are no such states: there are none");
        ExploreShares x = new ExploreShares(2, 2);
        CHECK.dueThrow("move(0, 0)", IllegalArgumentException.class, () -> x.move(0, 0));
        CHECK.dueThrow("move(-1, -1)", IllegalArgumentException.class, () -> x.move(-1, -1));
        CHECK.due("count(3)", 0, () -> x.count(3));
    }

    private static void aStateThatComesLater() {
        CHECK.says("IllegalArgumentException, when there are no such states: not yet");
        ExploreShares x = Made.withStates(2, 2, 1);
        CHECK.dueThrow("move(0, 1)", IllegalArgumentException.class, () -> x.move(0, 1));
        x.state();
        CHECK.due("move(0, 1)", 1, () -> x.move(0, 1));
        CHECK.due("run(1)", 2, () -> x.run(1));
    }

    private static void aRefusedMoveChangesNothing() {
        CHECK.says("IllegalArgumentException: no move more");
        ExploreShares x = Made.withMoves(2, 2, 4, new int[][] {{0, 3}, {3, 1}});
        x.run(5);
        String before = Answers.of(x);
        CHECK.dueThrow("move(4, 0)", IllegalArgumentException.class, () -> x.move(4, 0));
        CHECK.dueThrow("move(0, -1)", IllegalArgumentException.class, () -> x.move(0, -1));
        CHECK.due("all answers", before, Answers.of(x));
    }

    /** No 512 calls get there; what is answered is free then, and the plain words are kept to all the same. */
    private static void sixHundred() {
        CHECK.says("UnsupportedOperationException, when there are 600.");
        ExploreShares x = Made.withStates(3, 8, 200);
        for (int m = 0; m < 600; m++) {
            int from = m * 7 % 200;
            int to = (m * 7 + 1) % 200;
            CHECK.due("move(" + from + ", " + to + ")", m + 1, () -> x.move(from, to));
        }
        CHECK.due("run(1)", 200, () -> x.run(1));
        CHECK.dueThrow("move(0, 1)", UnsupportedOperationException.class, () -> x.move(0, 1));
        CHECK.dueThrow("move(199, 199)", UnsupportedOperationException.class, () -> x.move(199, 199));
        CHECK.due("count(3)", 600, () -> x.count(3));
        CHECK.due("count(5), not gone", 200, () -> x.count(5));
        CHECK.due("level(199)", 199, () -> x.level(199));
    }

    private static void firstOneTold() {
        CHECK.says("Of several exceptions the first one told is thrown.");
        ExploreShares x = Made.withStates(2, 2, 2);
        for (int m = 0; m < 600; m++) {
            x.move(0, 1);
        }
        CHECK.dueThrowOutside("move(from, 0) of 600", 1, IllegalArgumentException.class, s -> x.move(s, 0));
        CHECK.dueThrowOutside("move(0, to) of 600", 1, IllegalArgumentException.class, s -> x.move(0, s));
        CHECK.dueThrow("move(0, 1) of 600", UnsupportedOperationException.class, () -> x.move(0, 1));
    }

    /**
     * Of two workers states 0 and 1 are worker 0's, state 3 is worker 1's. Worker 0 fails after its first
     * move: only if that leads to state 3 was there ever one in a queue.
     */
    private static void movesStandInTheOrderTold() {
        CHECK.says("Their moves, in the order in which they were told");
        ExploreShares x = Made.withMoves(2, 2, 4, new int[][] {{2, 2}, {0, 3}, {1, 3}, {0, 1}, {3, 0}});
        x.fail(0, 0, 2);
        int seed = Seeds.where(new int[] {1, 0}, new int[] {2, 0});
        x.run(seed);
        CHECK.due("count(10)", 1, () -> x.count(10));
        CHECK.due("count(8), the queue's state first", 1, () -> x.count(8));
        ExploreShares y = Made.withMoves(2, 2, 4, new int[][] {{2, 2}, {0, 1}, {1, 3}, {0, 3}});
        y.fail(0, 0, 2);
        y.run(seed);
        CHECK.due("count(10)", 1, () -> y.count(10));
        CHECK.due("count(8), the own state first", 0, () -> y.count(8));
    }
}
