/** The edges of promise 2, state. */
public final class Promise02StateTest {
    private static final Check CHECK = new Check("Promise02StateTest");

    public static void main(String[] args) {
        numbers();
        theLastStateCanBeUsed();
        twoHundred();
        aRefusedStateChangesNothing();
        goneByState();
        goneByMove();
        goneByFail();
        goneByFailThatChangesNothing();
        notGoneByAsking();
        CHECK.end();
    }

    private static void numbers() {
        CHECK.says("A state more: its number.");
        ExploreShares x = new ExploreShares(2, 2);
        for (int s = 0; s < 200; s++) {
            int states = s + 1;
            CHECK.due("state()", s, x::state);
            CHECK.due("count(2)", states, () -> x.count(2));
        }
    }

    private static void theLastStateCanBeUsed() {
        CHECK.says("A state more, up to 200");
        ExploreShares x = Made.withStates(2, 2, 199);
        CHECK.dueThrow("level(199) of 199", IndexOutOfBoundsException.class, () -> x.level(199));
        CHECK.due("state()", 199, x::state);
        CHECK.due("level(199) of 200", -1, () -> x.level(199));
        CHECK.due("times(199) of 200", 0, () -> x.times(199));
        CHECK.due("move(0, 199)", 1, () -> x.move(0, 199));
        CHECK.due("move(199, 199)", 2, () -> x.move(199, 199));
        CHECK.due("move(199, 1)", 3, () -> x.move(199, 1));
        CHECK.due("run(1)", 3, () -> x.run(1));
        CHECK.due("level(199)", 1, () -> x.level(199));
        CHECK.due("way(1, 1)", 199, () -> x.way(1, 1));
    }

    private static void twoHundred() {
        CHECK.says("UnsupportedOperationException, when there are 200.");
        ExploreShares x = Made.withStates(16, 8, 200);
        CHECK.dueThrow("state()", UnsupportedOperationException.class, x::state);
        CHECK.dueThrow("state() again", UnsupportedOperationException.class, x::state);
        CHECK.due("count(2)", 200, () -> x.count(2));
        CHECK.dueThrow("level(200)", IndexOutOfBoundsException.class, () -> x.level(200));
        CHECK.dueThrow("move(0, 200)", IllegalArgumentException.class, () -> x.move(0, 200));
        CHECK.due("run(0)", 1, () -> x.run(0));
    }

    private static void aRefusedStateChangesNothing() {
        CHECK.says("What was run is gone by this: by a state more, not by none");
        ExploreShares x = Made.withStates(2, 2, 200);
        x.move(0, 199);
        x.run(3);
        CHECK.dueThrow("state()", UnsupportedOperationException.class, x::state);
        CHECK.due("level(199)", 1, () -> x.level(199));
        CHECK.due("count(5)", 2, () -> x.count(5));
        CHECK.due("count(6)", 2, () -> x.count(6));
        CHECK.due("size(1)", 1, () -> x.size(1));
        CHECK.due("times(0)", 1, () -> x.times(0));
    }

    /** Worker 0 fails, so that owners, failings and who is live must come back as well. */
    private static ExploreShares made() {
        ExploreShares x = Made.withMoves(2, 1, 4, new int[][] {{0, 1}, {0, 3}, {0, 3}, {3, 2}});
        x.fail(0, 0, 3);
        return x;
    }

    private static ExploreShares madeAndRun() {
        ExploreShares x = made();
        CHECK.due("run(9)", 4, () -> x.run(9));
        CHECK.due("count(10)", 1, () -> x.count(10));
        CHECK.due("owner(0)", 1, () -> x.owner(0));
        return x;
    }

    private static void goneByState() {
        CHECK.says("What was run is gone by this");
        ExploreShares x = madeAndRun();
        ExploreShares never = made();
        CHECK.due("state()", 4, x::state);
        never.state();
        CHECK.due("all answers", Answers.of(never), Answers.of(x));
    }

    private static void goneByMove() {
        CHECK.says("What was run is gone by move()");
        ExploreShares x = madeAndRun();
        ExploreShares never = made();
        CHECK.due("move(2, 2)", 5, () -> x.move(2, 2));
        never.move(2, 2);
        CHECK.due("all answers", Answers.of(never), Answers.of(x));
    }

    private static void goneByFail() {
        CHECK.says("What was run is gone by fail()");
        ExploreShares x = madeAndRun();
        ExploreShares never = made();
        CHECK.due("fail(1, 7, 1)", 2, () -> x.fail(1, 7, 1));
        never.fail(1, 7, 1);
        CHECK.due("all answers", Answers.of(never), Answers.of(x));
    }

    private static void goneByFailThatChangesNothing() {
        CHECK.says("What was run is gone by fail(), also when it tells what was told");
        ExploreShares x = madeAndRun();
        CHECK.due("fail(0, 0, 3)", 1, () -> x.fail(0, 0, 3));
        CHECK.due("all answers", Answers.of(made()), Answers.of(x));
        x.run(9);
        CHECK.due("fail(1, 0, 0)", 1, () -> x.fail(1, 0, 0));
        CHECK.due("all answers", Answers.of(made()), Answers.of(x));
    }

    private static void notGoneByAsking() {
        CHECK.says("What was run is gone by this, move() and fail(): by no other call");
        ExploreShares x = madeAndRun();
        String first = Answers.of(x);
        CHECK.due("all answers again", first, Answers.of(x));
        CHECK.dueThrow("move(0, 4)", IllegalArgumentException.class, () -> x.move(0, 4));
        CHECK.dueThrow("fail(2, 0, 1)", IndexOutOfBoundsException.class, () -> x.fail(2, 0, 1));
        CHECK.dueThrow("fail(0, 200, 1)", IllegalArgumentException.class, () -> x.fail(0, 200, 1));
        CHECK.due("all answers after refused calls", first, Answers.of(x));
    }
}
