/** What is told before a run: promises 1 to 4, and how they take back what was run. */
public final class ToldTest {
    private static final Check CHECK = new Check("ToldTest");

    public static void main(String[] args) {
        CHECK.due("NONE", -1, () -> ExploreShares.NONE);
        sizesOfANewObject();
        emptyObject();
        states();
        moves();
        movesInAll();
        failings();
        twentyFailings();
        whatWasRunIsGone();
        refusedCallsLeaveWhatWasRun();
        CHECK.end();
    }

    private static void sizesOfANewObject() {
        int[][] rows = { // workers, queue, W, Q
            {1, 1, 1, 1}, {3, 2, 3, 2}, {16, 8, 16, 8}, {17, 9, 1, 1}, {0, 0, 16, 8}, {-1, -1, 15, 7},
            {-15, -7, 1, 1}, {-16, -8, 16, 8}, {33, 18, 1, 2},
            {Integer.MAX_VALUE, Integer.MAX_VALUE, 15, 7}, {Integer.MIN_VALUE, Integer.MIN_VALUE, 16, 8},
            {Integer.MIN_VALUE + 1, Integer.MIN_VALUE + 1, 1, 1},
        };
        for (int[] row : rows) {
            ExploreShares x = new ExploreShares(row[0], row[1]);
            String made = "new ExploreShares(" + row[0] + ", " + row[1] + ").";
            CHECK.due(made + "count(0)", row[2], () -> x.count(0));
            CHECK.due(made + "count(1)", row[3], () -> x.count(1));
            CHECK.due(made + "count(9)", row[2], () -> x.count(9));
            CHECK.dueThrow(made + "worker(W, 4)", IndexOutOfBoundsException.class, () -> x.worker(row[2], 4));
            CHECK.due(made + "worker(W - 1, 4)", 1, () -> x.worker(row[2] - 1, 4));
        }
    }

    private static void emptyObject() {
        ExploreShares x = new ExploreShares(3, 2);
        for (int what : new int[] {2, 3, 4, 5, 6, 7, 8, 10}) {
            CHECK.due("empty count(" + what + ")", 0, () -> x.count(what));
        }
        CHECK.dueThrow("empty run(0)", IllegalStateException.class, () -> x.run(0));
        CHECK.dueThrow("empty level(0)", IndexOutOfBoundsException.class, () -> x.level(0));
        CHECK.dueThrow("empty owner(0)", IndexOutOfBoundsException.class, () -> x.owner(0));
        CHECK.dueThrow("empty times(0)", IndexOutOfBoundsException.class, () -> x.times(0));
        CHECK.dueThrow("empty way(0, 0)", IndexOutOfBoundsException.class, () -> x.way(0, 0));
        CHECK.dueThrow("empty failed(0, 0)", IndexOutOfBoundsException.class, () -> x.failed(0, 0));
        CHECK.dueThrow("empty size(0)", IndexOutOfBoundsException.class, () -> x.size(0));
        CHECK.dueThrow("empty move(0, 0)", IllegalArgumentException.class, () -> x.move(0, 0));
    }

    private static void states() {
        ExploreShares x = new ExploreShares(5, 3);
        for (int s = 0; s < 200; s++) {
            CHECK.due("state() number " + s, s, x::state);
        }
        CHECK.dueThrow("state() number 200", UnsupportedOperationException.class, x::state);
        CHECK.dueThrow("state() again", UnsupportedOperationException.class, x::state);
        CHECK.due("count(2) with 200 states", 200, () -> x.count(2));
        CHECK.due("move(199, 0)", 1, () -> x.move(199, 0));
        CHECK.dueThrow("move(200, 0)", IllegalArgumentException.class, () -> x.move(200, 0));
    }

    private static void moves() {
        ExploreShares x = Made.withStates(2, 1, 3);
        CHECK.due("move(0, 1)", 1, () -> x.move(0, 1));
        CHECK.due("move(0, 1), the same again", 2, () -> x.move(0, 1));
        CHECK.due("move(2, 2), to itself", 3, () -> x.move(2, 2));
        int[][] wrong = {{-1, 0}, {0, -1}, {3, 0}, {0, 3}, {Integer.MIN_VALUE, 0}, {0, Integer.MAX_VALUE}};
        for (int[] move : wrong) {
            CHECK.dueThrow("move(" + move[0] + ", " + move[1] + ")", IllegalArgumentException.class,
                    () -> x.move(move[0], move[1]));
        }
        CHECK.due("count(3) after wrong moves", 3, () -> x.count(3));
    }

    /** Only beyond the 512th call, where answers are free: but nothing else may be thrown there either. */
    private static void movesInAll() {
        ExploreShares x = Made.withStates(2, 1, 3);
        for (int m = 1; m <= 600; m++) {
            int due = m;
            CHECK.due("move(" + m % 3 + ", 1) number " + m, due, () -> x.move(due % 3, 1));
        }
        CHECK.dueThrow("move(0, 1) number 601", UnsupportedOperationException.class, () -> x.move(0, 1));
        CHECK.dueThrow("move(0, 3) number 601", IllegalArgumentException.class, () -> x.move(0, 3));
        CHECK.due("run(1) with 600 moves", 2, () -> x.run(1));
    }

    private static void failings() {
        ExploreShares x = new ExploreShares(3, 2);
        CHECK.due("fail(0, 0, 1)", 1, () -> x.fail(0, 0, 1));
        CHECK.due("fail(2, 199, 1000)", 2, () -> x.fail(2, 199, 1000));
        CHECK.due("fail(0, 0, 7), told again", 2, () -> x.fail(0, 0, 7));
        CHECK.due("fail(1, 0, 0), never told", 2, () -> x.fail(1, 0, 0));
        CHECK.due("fail(0, 0, 0), taken back", 1, () -> x.fail(0, 0, 0));
        CHECK.due("fail(0, 0, 0), taken back twice", 1, () -> x.fail(0, 0, 0));
        CHECK.due("count(4)", 1, () -> x.count(4));
        int[][] noWorker = {{-1, 0, 1}, {3, 0, 1}, {Integer.MAX_VALUE, 0, 1}, {3, -1, 1}, {-1, 0, 1001}};
        for (int[] f : noWorker) {
            CHECK.dueThrow("fail(" + f[0] + ", " + f[1] + ", " + f[2] + ")", IndexOutOfBoundsException.class,
                    () -> x.fail(f[0], f[1], f[2]));
        }
        int[][] noTurn = {{0, -1, 1}, {0, 200, 1}, {0, 0, -1}, {0, 0, 1001}, {0, Integer.MIN_VALUE, 0},
            {0, 0, Integer.MAX_VALUE}};
        for (int[] f : noTurn) {
            CHECK.dueThrow("fail(" + f[0] + ", " + f[1] + ", " + f[2] + ")", IllegalArgumentException.class,
                    () -> x.fail(f[0], f[1], f[2]));
        }
        CHECK.due("count(4) after wrong failings", 1, () -> x.count(4));
    }

    private static void twentyFailings() {
        ExploreShares x = new ExploreShares(4, 2);
        for (int i = 0; i < 20; i++) {
            int worker = i % 4;
            int level = i / 4;
            CHECK.due("fail number " + i, i + 1, () -> x.fail(worker, level, 5));
        }
        CHECK.dueThrow("fail(0, 5, 1) as number 21", UnsupportedOperationException.class, () -> x.fail(0, 5, 1));
        CHECK.dueThrow("fail(0, 5, 0) as number 21", UnsupportedOperationException.class, () -> x.fail(0, 5, 0));
        CHECK.dueThrow("fail(0, 200, 1) with twenty", IllegalArgumentException.class, () -> x.fail(0, 200, 1));
        CHECK.dueThrow("fail(4, 5, 1) with twenty", IndexOutOfBoundsException.class, () -> x.fail(4, 5, 1));
        CHECK.due("fail(3, 4, 9), among twenty", 20, () -> x.fail(3, 4, 9));
        CHECK.due("fail(0, 0, 0), among twenty", 19, () -> x.fail(0, 0, 0));
        CHECK.due("fail(0, 5, 1), now with room", 20, () -> x.fail(0, 5, 1));
        CHECK.dueThrow("fail(0, 0, 1), no room again", UnsupportedOperationException.class, () -> x.fail(0, 0, 1));
    }

    private static void whatWasRunIsGone() {
        for (int by = 0; by < 4; by++) {
            ExploreShares x = Made.star(2, 1, 4);
            x.fail(0, 0, 3);
            CHECK.due("run(1) before it is gone", 5, () -> x.run(1));
            CHECK.due("count(10) before it is gone", 1, () -> x.count(10));
            if (by == 0) {
                x.state();
            } else if (by == 1) {
                x.move(1, 2);
            } else {
                x.fail(1, 0, by == 2 ? 1 : 0);
            }
            nothingWasRun("gone by " + by, x);
        }
    }

    private static void nothingWasRun(String when, ExploreShares x) {
        for (int what : new int[] {5, 6, 7, 8, 10}) {
            CHECK.due(when + ": count(" + what + ")", 0, () -> x.count(what));
        }
        CHECK.due(when + ": count(9)", 2, () -> x.count(9));
        CHECK.due(when + ": level(0)", -1, () -> x.level(0));
        CHECK.due(when + ": times(0)", 0, () -> x.times(0));
        CHECK.due(when + ": owner(0)", 0, () -> x.owner(0));
        for (int what = 0; what < 4; what++) {
            int asked = what;
            CHECK.due(when + ": worker(0, " + what + ")", 0, () -> x.worker(0, asked));
        }
        CHECK.due(when + ": worker(0, 4)", 1, () -> x.worker(0, 4));
        CHECK.dueThrow(when + ": way(0, 0)", IndexOutOfBoundsException.class, () -> x.way(0, 0));
        CHECK.dueThrow(when + ": size(0)", IndexOutOfBoundsException.class, () -> x.size(0));
        CHECK.dueThrow(when + ": failed(0, 0)", IndexOutOfBoundsException.class, () -> x.failed(0, 0));
    }

    private static void refusedCallsLeaveWhatWasRun() {
        ExploreShares x = Made.star(2, 1, 199);
        x.run(1);
        CHECK.dueThrow("state() after a run", UnsupportedOperationException.class, x::state);
        CHECK.dueThrow("move(0, 200) after a run", IllegalArgumentException.class, () -> x.move(0, 200));
        CHECK.dueThrow("fail(2, 0, 1) after a run", IndexOutOfBoundsException.class, () -> x.fail(2, 0, 1));
        CHECK.dueThrow("fail(0, 0, -1) after a run", IllegalArgumentException.class, () -> x.fail(0, 0, -1));
        CHECK.due("count(5) after refused calls", 200, () -> x.count(5));
        CHECK.due("level(199) after refused calls", 1, () -> x.level(199));
    }
}
