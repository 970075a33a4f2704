/** Promise 9: shortest ways. */
public final class WayTest {
    private static final Check CHECK = new Check("WayTest");

    public static void main(String[] args) {
        lowestFromTheFront();
        onlyWhatLeadsOn();
        shortestNotLowest();
        noWay();
        CHECK.end();
    }

    private static void dueWay(String when, ExploreShares x, int state, int... want) {
        for (int k = 0; k < want.length; k++) {
            int asked = k;
            CHECK.due(when + ": way(" + state + ", " + k + ")", want[k], () -> x.way(state, asked));
        }
        for (int k : new int[] {-1, want.length, Integer.MIN_VALUE, Integer.MAX_VALUE}) {
            CHECK.dueThrow(when + ": way(" + state + ", " + k + ")", IndexOutOfBoundsException.class,
                    () -> x.way(state, k));
        }
    }

    /** From the front 1 is below 2, though from the end 3 is below 4. */
    private static void lowestFromTheFront() {
        int[][] moves = {{0, 2}, {0, 1}, {2, 3}, {1, 4}, {3, 5}, {4, 5}};
        ExploreShares x = Made.withMoves(3, 2, 6, moves);
        x.run(1);
        dueWay("from the front", x, 5, 0, 1, 4, 5);
        dueWay("from the front", x, 3, 0, 2, 3);
        dueWay("from the front", x, 0, 0);
    }

    private static void onlyWhatLeadsOn() {
        int[][] moves = {{0, 1}, {0, 3}, {0, 2}, {2, 4}, {3, 4}, {1, 1}, {1, 0}, {4, 1}};
        ExploreShares x = Made.withMoves(2, 1, 5, moves);
        x.run(1);
        dueWay("what leads on", x, 4, 0, 2, 4);
        dueWay("what leads on", x, 1, 0, 1);
    }

    private static void shortestNotLowest() {
        int[][] moves = {{0, 1}, {1, 2}, {2, 3}, {0, 4}, {4, 3}};
        ExploreShares x = Made.withMoves(4, 1, 5, moves);
        x.run(1);
        dueWay("shortest", x, 3, 0, 4, 3);
    }

    private static void noWay() {
        ExploreShares x = Made.withMoves(4, 1, 3, new int[][] {{0, 1}, {2, 1}});
        dueWay("before a run", x, 0);
        x.run(1);
        dueWay("never came", x, 2);
        dueWay("came", x, 1, 0, 1);
        CHECK.dueThrow("way(3, 0)", IndexOutOfBoundsException.class, () -> x.way(3, 0));
        CHECK.dueThrow("way(-1, 0)", IndexOutOfBoundsException.class, () -> x.way(-1, 0));
        x.move(1, 2);
        dueWay("gone", x, 1);
    }
}
