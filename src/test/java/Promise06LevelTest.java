/** The edges of promise 6, level. */
public final class Promise06LevelTest {
    private static final Check CHECK = new Check("Promise06LevelTest");

    public static void main(String[] args) {
        noSuchState();
        nothingWasRun();
        neverCame();
        firstAndLastLevel();
        ofNoLevelUpToK();
        CHECK.end();
    }

    private static void noSuchState() {
        CHECK.says("IndexOutOfBoundsException, when there is no such state.");
        for (int states : new int[] {0, 1, 5, 199, 200}) {
            ExploreShares x = Made.withStates(2, 2, states);
            CHECK.dueThrowOutside("level before a run", states - 1, IndexOutOfBoundsException.class, x::level);
            if (states > 0) {
                x.run(1);
                CHECK.dueThrowOutside("level after a run", states - 1, IndexOutOfBoundsException.class, x::level);
                CHECK.due("level(0)", 0, () -> x.level(0));
                CHECK.due("level(" + (states - 1) + ")", states == 1 ? 0 : -1, () -> x.level(states - 1));
            }
        }
    }

    private static void nothingWasRun() {
        CHECK.says("NONE, when .. nothing was run");
        ExploreShares x = Made.chain(2, 2, 3);
        for (int s = 0; s < 3; s++) {
            int state = s;
            CHECK.due("level(" + s + ")", ExploreShares.NONE, () -> x.level(state));
        }
        x.run(1);
        CHECK.due("level(2) after a run", 2, () -> x.level(2));
        x.move(0, 2);
        for (int s = 0; s < 3; s++) {
            int state = s;
            CHECK.due("level(" + s + ") when it is gone", ExploreShares.NONE, () -> x.level(state));
        }
        x.run(1);
        CHECK.due("level(2) after a new run", 1, () -> x.level(2));
    }

    private static void neverCame() {
        CHECK.says("NONE, when it never came");
        ExploreShares x = Made.withMoves(2, 2, 5, new int[][] {{0, 1}, {2, 1}, {2, 3}, {3, 2}, {4, 4}});
        x.run(1);
        int[] want = {0, 1, -1, -1, -1};
        for (int s = 0; s < 5; s++) {
            int state = s;
            CHECK.due("level(" + s + ")", want[s], () -> x.level(state));
        }
    }

    private static void firstAndLastLevel() {
        CHECK.says("A state's level, 0 .. 199");
        ExploreShares x = Made.chain(7, 3, 200);
        x.run(1);
        for (int s = 0; s < 100; s++) {
            int state = s * 199 / 99;
            CHECK.due("level(" + state + ")", state, () -> x.level(state));
        }
    }

    /** Moves back, to itself, within a level and twice to the same one change no level. */
    private static void ofNoLevelUpToK() {
        CHECK.says("Level k + 1 has all states to which a move of one of level k leads .. of no level up to k");
        int[][] moves = {{0, 0}, {0, 2}, {0, 2}, {0, 1}, {1, 2}, {2, 1}, {1, 0}, {2, 2}, {2, 3}, {1, 3}, {3, 1},
            {3, 0}, {3, 4}, {4, 3}, {4, 4}};
        for (int workers = 1; workers <= 16; workers++) {
            ExploreShares x = Made.withMoves(workers, 1, 5, moves);
            x.run(workers);
            int[] want = {0, 1, 1, 2, 3};
            for (int s = 0; s < 5; s++) {
                int state = s;
                CHECK.due("W " + workers + " level(" + s + ")", want[s], () -> x.level(state));
            }
            CHECK.due("W " + workers + " count(6)", 4, () -> x.count(6));
        }
    }
}
