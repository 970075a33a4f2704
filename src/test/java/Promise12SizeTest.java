/** The edges of promise 12, size. */
public final class Promise12SizeTest {
    private static final Check CHECK = new Check("Promise12SizeTest");

    public static void main(String[] args) {
        nothingWasRun();
        noSuchLevel();
        oneLevel();
        twoHundredLevels();
        theLargestLevel();
        onlyWhatIsNewInALevel();
        fewerLevelsInALaterRun();
        CHECK.end();
    }

    private static void dueSizes(ExploreShares x, int... want) {
        for (int k = 0; k < want.length; k++) {
            int level = k;
            CHECK.due("size(" + k + ")", want[k], () -> x.size(level));
        }
        CHECK.dueThrowOutside("size(k)", want.length - 1, IndexOutOfBoundsException.class, x::size);
        CHECK.due("count(6)", want.length, () -> x.count(6));
    }

    private static void nothingWasRun() {
        CHECK.says("IndexOutOfBoundsException, when there is no such level (or nothing was run).");
        dueSizes(new ExploreShares(2, 1));
        ExploreShares x = Made.chain(2, 1, 3);
        dueSizes(x);
        x.run(1);
        dueSizes(x, 1, 1, 1);
        x.fail(0, 0, 0);
        dueSizes(x);
    }

    private static void noSuchLevel() {
        CHECK.says("IndexOutOfBoundsException, when there is no such level");
        ExploreShares x = Made.withMoves(3, 1, 6, new int[][] {{0, 1}, {0, 2}, {2, 3}, {1, 4}, {1, 3}, {5, 0}});
        x.run(1);
        dueSizes(x, 1, 2, 2);
    }

    private static void oneLevel() {
        CHECK.says("States of level k: level 0 is state 0");
        ExploreShares x = Made.withMoves(3, 1, 2, new int[][] {{0, 0}, {1, 0}});
        x.run(1);
        dueSizes(x, 1);
    }

    private static void twoHundredLevels() {
        CHECK.says("States of level k, up to k = 199");
        ExploreShares x = Made.chain(3, 1, 200);
        x.run(1);
        for (int k : new int[] {0, 1, 100, 198, 199}) {
            CHECK.due("size(" + k + ")", 1, () -> x.size(k));
        }
        CHECK.dueThrowOutside("size(k)", 199, IndexOutOfBoundsException.class, x::size);
        CHECK.due("count(6)", 200, () -> x.count(6));
    }

    private static void theLargestLevel() {
        CHECK.says("States of level k: up to 199");
        for (int workers = 1; workers <= 16; workers++) {
            ExploreShares x = Made.star(workers, 1, 199);
            x.run(workers);
            dueSizes(x, 1, 199);
        }
    }

    private static void onlyWhatIsNewInALevel() {
        CHECK.says("Level k + 1 has all states .. that are of no level up to k");
        int[][] moves = {{0, 1}, {0, 1}, {0, 2}, {1, 2}, {2, 1}, {1, 0}, {2, 3}, {1, 3}, {3, 3}, {3, 1}};
        for (int workers = 1; workers <= 16; workers++) {
            ExploreShares x = Made.withMoves(workers, 1, 4, moves);
            x.run(1);
            dueSizes(x, 1, 2, 1);
        }
    }

    private static void fewerLevelsInALaterRun() {
        CHECK.says("IndexOutOfBoundsException, when there is no such level any more");
        ExploreShares x = Made.chain(3, 1, 4);
        x.run(1);
        dueSizes(x, 1, 1, 1, 1);
        x.move(0, 2);
        x.move(0, 3);
        x.run(1);
        dueSizes(x, 1, 3);
    }
}
