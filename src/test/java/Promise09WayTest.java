/** The edges of promise 9, way. */
public final class Promise09WayTest {
    private static final Check CHECK = new Check("Promise09WayTest");

    public static void main(String[] args) {
        noSuchState();
        noneSuchOnIt();
        nothingWasRun();
        neverCame();
        stateZeroAlone();
        theLongestWay();
        theLowestEachTime();
        theLowestThatCanBe();
        lowestThoughToldLast();
        notByAMoveBack();
        CHECK.end();
    }

    private static void dueWay(ExploreShares x, int state, int... want) {
        for (int k = 0; k < want.length; k++) {
            int asked = k;
            CHECK.due("way(" + state + ", " + k + ")", want[k], () -> x.way(state, asked));
        }
        CHECK.dueThrowOutside("way(" + state + ", k)", want.length - 1, IndexOutOfBoundsException.class,
                k -> x.way(state, k));
    }

    private static void noSuchState() {
        CHECK.says("IndexOutOfBoundsException, when there is no such state");
        for (int states : new int[] {0, 1, 5, 199, 200}) {
            ExploreShares x = Made.withStates(2, 2, states);
            CHECK.dueThrowOutside("way(state, 0) before a run", states - 1, IndexOutOfBoundsException.class,
                    s -> x.way(s, 0));
            if (states > 0) {
                x.run(1);
                CHECK.dueThrowOutside("way(state, 0)", states - 1, IndexOutOfBoundsException.class, s -> x.way(s, 0));
                CHECK.dueThrowOutside("way(state, -1)", states - 1, IndexOutOfBoundsException.class,
                        s -> x.way(s, -1));
            }
        }
    }

    private static void noneSuchOnIt() {
        CHECK.says("IndexOutOfBoundsException, when there is .. none such on it");
        ExploreShares x = Made.chain(3, 2, 4);
        x.run(1);
        dueWay(x, 0, 0);
        dueWay(x, 1, 0, 1);
        dueWay(x, 2, 0, 1, 2);
        dueWay(x, 3, 0, 1, 2, 3);
    }

    private static void nothingWasRun() {
        CHECK.says("IndexOutOfBoundsException, when there is .. none such on it: nothing came yet");
        ExploreShares x = Made.chain(3, 2, 3);
        dueWay(x, 0);
        dueWay(x, 2);
        x.run(1);
        dueWay(x, 2, 0, 1, 2);
        x.move(0, 2);
        dueWay(x, 0);
        dueWay(x, 2);
        x.run(1);
        dueWay(x, 2, 0, 2);
    }

    private static void neverCame() {
        CHECK.says("IndexOutOfBoundsException .. (also when it never came)");
        ExploreShares x = Made.withMoves(3, 2, 5, new int[][] {{0, 1}, {2, 0}, {2, 1}, {3, 4}});
        x.run(1);
        dueWay(x, 2);
        dueWay(x, 3);
        dueWay(x, 4);
        dueWay(x, 1, 0, 1);
    }

    private static void stateZeroAlone() {
        CHECK.says("State 0 first");
        ExploreShares x = Made.withMoves(3, 2, 2, new int[][] {{0, 1}, {1, 0}, {0, 0}});
        x.run(1);
        dueWay(x, 0, 0);
    }

    private static void theLongestWay() {
        CHECK.says("State k on a shortest way, up to k = 199");
        ExploreShares x = Made.chain(5, 2, 200);
        x.run(1);
        for (int k = 0; k <= 199; k += 2) {
            int asked = k;
            CHECK.due("way(199, " + k + ")", k, () -> x.way(199, asked));
        }
        CHECK.due("way(199, 198)", 198, () -> x.way(199, 198));
        CHECK.due("way(199, 199)", 199, () -> x.way(199, 199));
        CHECK.dueThrow("way(199, 200)", IndexOutOfBoundsException.class, () -> x.way(199, 200));
        CHECK.dueThrow("way(198, 199)", IndexOutOfBoundsException.class, () -> x.way(198, 199));
    }

    /** From the front 1 is below 2, and behind 1 are 5 and 6, though 3 behind 2 is below both. */
    private static void theLowestEachTime() {
        CHECK.says("Each time the lowest one that can be");
        int[][] moves = {{0, 2}, {0, 1}, {2, 3}, {1, 6}, {1, 5}, {3, 7}, {6, 7}, {5, 7}};
        ExploreShares x = Made.withMoves(4, 2, 8, moves);
        x.run(1);
        dueWay(x, 7, 0, 1, 5, 7);
        dueWay(x, 3, 0, 2, 3);
        dueWay(x, 6, 0, 1, 6);
    }

    /** State 1 is lower than 2, and 3 lower than 4, but no shortest way to the goal goes on from them. */
    private static void theLowestThatCanBe() {
        CHECK.says("The lowest one that can be: from which a shortest way goes on");
        int[][] moves = {{0, 1}, {0, 2}, {1, 3}, {2, 3}, {2, 4}, {3, 5}, {5, 6}, {4, 6}, {1, 2}, {3, 4}};
        ExploreShares x = Made.withMoves(4, 2, 7, moves);
        x.run(1);
        dueWay(x, 6, 0, 2, 4, 6);
        dueWay(x, 5, 0, 1, 3, 5);
        dueWay(x, 4, 0, 2, 4);
    }

    private static void lowestThoughToldLast() {
        CHECK.says("Each time the lowest one that can be, in whatever order told");
        int[][] moves = {{0, 5}, {0, 3}, {0, 4}, {0, 2}, {5, 1}, {3, 1}, {2, 1}, {4, 1}};
        ExploreShares x = Made.withMoves(4, 2, 6, moves);
        x.run(1);
        dueWay(x, 1, 0, 2, 1);
        x.move(3, 2);
        x.run(2);
        dueWay(x, 1, 0, 2, 1);
    }

    private static void notByAMoveBack() {
        CHECK.says("On a shortest way: each state is one level on");
        int[][] moves = {{0, 3}, {3, 0}, {3, 3}, {3, 2}, {2, 3}, {2, 0}, {0, 1}, {1, 0}, {2, 4}, {1, 1}};
        ExploreShares x = Made.withMoves(2, 1, 5, moves);
        x.run(1);
        dueWay(x, 4, 0, 3, 2, 4);
    }
}
