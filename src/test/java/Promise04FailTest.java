/** The edges of promise 4, fail. */
public final class Promise04FailTest {
    private static final Check CHECK = new Check("Promise04FailTest");

    public static void main(String[] args) {
        howManyAreTold();
        noSuchWorker();
        noSuchLevel();
        noSuchTurn();
        firstOneTold();
        toldAgain();
        latestWords();
        notThere();
        notThereAndToldAgain();
        nothingToTakeBack();
        twenty();
        twentyAndAmongThem();
        twentyAndNoneOfThemForgotten();
        takenBackMakesRoom();
        oneTakenBackLeavesTheOthers();
        aRefusedFailingChangesNothing();
        theFirstLevelAndTurn();
        theLastLevel();
        theLastTurn();
        CHECK.end();
    }

    private static void howManyAreTold() {
        CHECK.says("How many failings are told.");
        ExploreShares x = new ExploreShares(3, 2);
        CHECK.due("count(4)", 0, () -> x.count(4));
        CHECK.due("fail(0, 0, 1)", 1, () -> x.fail(0, 0, 1));
        CHECK.due("fail(0, 1, 1), another level", 2, () -> x.fail(0, 1, 1));
        CHECK.due("fail(1, 0, 1), another worker", 3, () -> x.fail(1, 0, 1));
        CHECK.due("fail(1, 1, 1)", 4, () -> x.fail(1, 1, 1));
        CHECK.due("count(4)", 4, () -> x.count(4));
    }

    private static void noSuchWorker() {
        CHECK.says("IndexOutOfBoundsException, when there is no such worker");
        for (int workers : new int[] {1, 2, 15, 16}) {
            ExploreShares x = new ExploreShares(workers, 1);
            CHECK.dueThrowOutside("fail(worker, 0, 1)", workers - 1, IndexOutOfBoundsException.class,
                    w -> x.fail(w, 0, 1));
            CHECK.due("count(4)", 0, () -> x.count(4));
            CHECK.due("fail(0, 0, 1)", 1, () -> x.fail(0, 0, 1));
            CHECK.due("fail(" + (workers - 1) + ", 1, 1)", 2, () -> x.fail(workers - 1, 1, 1));
        }
    }

    private static void noSuchLevel() {
        CHECK.says("IllegalArgumentException, when level is none of these (0 .. 199)");
        ExploreShares x = new ExploreShares(2, 1);
        CHECK.dueThrowOutside("fail(0, level, 1)", 199, IllegalArgumentException.class, k -> x.fail(0, k, 1));
        CHECK.dueThrowOutside("fail(0, level, 0)", 199, IllegalArgumentException.class, k -> x.fail(0, k, 0));
        CHECK.due("fail(0, 0, 1)", 1, () -> x.fail(0, 0, 1));
        CHECK.due("fail(0, 1, 1)", 2, () -> x.fail(0, 1, 1));
        CHECK.due("fail(0, 198, 1)", 3, () -> x.fail(0, 198, 1));
        CHECK.due("fail(0, 199, 1)", 4, () -> x.fail(0, 199, 1));
    }

    private static void noSuchTurn() {
        CHECK.says("IllegalArgumentException, when n is none of these (1 .. 1000, 0)");
        ExploreShares x = new ExploreShares(2, 1);
        CHECK.dueThrowOutside("fail(0, 0, n)", 1000, IllegalArgumentException.class, n -> x.fail(0, 0, n));
        CHECK.due("fail(0, 0, 0)", 0, () -> x.fail(0, 0, 0));
        CHECK.due("fail(0, 1, 1)", 1, () -> x.fail(0, 1, 1));
        CHECK.due("fail(0, 2, 2)", 2, () -> x.fail(0, 2, 2));
        CHECK.due("fail(0, 3, 999)", 3, () -> x.fail(0, 3, 999));
        CHECK.due("fail(0, 4, 1000)", 4, () -> x.fail(0, 4, 1000));
        CHECK.dueThrowOutside("fail(0, 4, n), told", 1000, IllegalArgumentException.class, n -> x.fail(0, 4, n));
    }

    /** Twenty failings of worker 0 in the levels 0 to 19. */
    private static ExploreShares withTwenty(int workers) {
        ExploreShares x = new ExploreShares(workers, 1);
        for (int level = 0; level < 20; level++) {
            x.fail(0, level, 5);
        }
        return x;
    }

    private static void firstOneTold() {
        CHECK.says("Of several exceptions the first one told is thrown.");
        for (ExploreShares x : new ExploreShares[] {new ExploreShares(2, 1), withTwenty(2)}) {
            CHECK.dueThrow("fail(2, 200, 1)", IndexOutOfBoundsException.class, () -> x.fail(2, 200, 1));
            CHECK.dueThrow("fail(-1, -1, 1)", IndexOutOfBoundsException.class, () -> x.fail(-1, -1, 1));
            CHECK.dueThrow("fail(2, 0, 1001)", IndexOutOfBoundsException.class, () -> x.fail(2, 0, 1001));
            CHECK.dueThrow("fail(-1, 0, -1)", IndexOutOfBoundsException.class, () -> x.fail(-1, 0, -1));
            CHECK.dueThrow("fail(2, 200, 1001)", IndexOutOfBoundsException.class, () -> x.fail(2, 200, 1001));
            CHECK.dueThrow("fail(1, 200, 1001)", IllegalArgumentException.class, () -> x.fail(1, 200, 1001));
            CHECK.dueThrow("fail(1, 200, 1)", IllegalArgumentException.class, () -> x.fail(1, 200, 1));
            CHECK.dueThrow("fail(1, 199, 1001)", IllegalArgumentException.class, () -> x.fail(1, 199, 1001));
            CHECK.dueThrow("fail(1, 199, -1)", IllegalArgumentException.class, () -> x.fail(1, 199, -1));
            CHECK.dueThrow("fail(0, 0, 1001)", IllegalArgumentException.class, () -> x.fail(0, 0, 1001));
        }
        ExploreShares full = withTwenty(2);
        CHECK.dueThrow("fail(2, 50, 1) of twenty", IndexOutOfBoundsException.class, () -> full.fail(2, 50, 1));
        CHECK.dueThrow("fail(1, 50, 1) of twenty", UnsupportedOperationException.class, () -> full.fail(1, 50, 1));
    }

    private static void toldAgain() {
        CHECK.says("Told again: by the latest words: not one more");
        ExploreShares x = new ExploreShares(3, 2);
        CHECK.due("fail(1, 4, 1)", 1, () -> x.fail(1, 4, 1));
        CHECK.due("fail(1, 4, 1)", 1, () -> x.fail(1, 4, 1));
        CHECK.due("fail(1, 4, 1000)", 1, () -> x.fail(1, 4, 1000));
        CHECK.due("fail(2, 4, 1)", 2, () -> x.fail(2, 4, 1));
        CHECK.due("fail(1, 4, 7)", 2, () -> x.fail(1, 4, 7));
    }

    /** Of two workers states 0, 1 and 2 are worker 0's: its turns in level 0 are its moves, in a row. */
    private static ExploreShares ownMoves() {
        return Made.withMoves(2, 1, 3, new int[][] {{0, 1}, {0, 2}, {0, 1}, {0, 2}});
    }

    private static void latestWords() {
        CHECK.says("Told again: by the latest words");
        ExploreShares x = ownMoves();
        for (int n : new int[] {4, 2, 3, 1, 4}) {
            x.fail(0, 0, n);
            x.run(1);
            CHECK.due("failed(0, 2) with " + n, n - 1, () -> x.failed(0, 2));
        }
        x.fail(0, 0, 5);
        x.run(1);
        CHECK.due("count(10) with 5, which it has not", 0, () -> x.count(10));
    }

    private static void notThere() {
        CHECK.says("With n 0 it does not fail there.");
        ExploreShares x = ownMoves();
        x.fail(0, 0, 1);
        x.fail(0, 1, 1);
        CHECK.due("fail(0, 0, 0)", 1, () -> x.fail(0, 0, 0));
        CHECK.due("count(4)", 1, () -> x.count(4));
        x.run(1);
        CHECK.due("count(10), the other level's", 1, () -> x.count(10));
        CHECK.due("failed(0, 1)", 1, () -> x.failed(0, 1));
        CHECK.due("fail(0, 1, 0)", 0, () -> x.fail(0, 1, 0));
        x.run(1);
        CHECK.due("count(10)", 0, () -> x.count(10));
        CHECK.due("count(9)", 2, () -> x.count(9));
    }

    private static void notThereAndToldAgain() {
        CHECK.says("Told again: by the latest words, after n 0 too");
        ExploreShares x = ownMoves();
        x.fail(0, 0, 1);
        x.fail(0, 0, 0);
        CHECK.due("fail(0, 0, 3)", 1, () -> x.fail(0, 0, 3));
        x.run(1);
        CHECK.due("failed(0, 2)", 2, () -> x.failed(0, 2));
    }

    private static void nothingToTakeBack() {
        CHECK.says("With n 0 it does not fail there, told or not");
        ExploreShares x = new ExploreShares(16, 1);
        CHECK.due("fail(0, 0, 0)", 0, () -> x.fail(0, 0, 0));
        CHECK.due("fail(15, 199, 0)", 0, () -> x.fail(15, 199, 0));
        x.fail(3, 3, 3);
        CHECK.due("fail(3, 4, 0)", 1, () -> x.fail(3, 4, 0));
        CHECK.due("fail(4, 3, 0)", 1, () -> x.fail(4, 3, 0));
        CHECK.due("fail(3, 3, 0)", 0, () -> x.fail(3, 3, 0));
        CHECK.due("fail(3, 3, 0) again", 0, () -> x.fail(3, 3, 0));
        CHECK.due("count(4)", 0, () -> x.count(4));
    }

    private static void twenty() {
        CHECK.says("UnsupportedOperationException, when there are twenty, and it is not among them.");
        ExploreShares x = new ExploreShares(16, 1);
        for (int i = 0; i < 20; i++) {
            int worker = i % 16;
            int level = 199 - i;
            CHECK.due("fail number " + (i + 1), i + 1, () -> x.fail(worker, level, 1000));
        }
        CHECK.dueThrow("fail(0, 0, 1)", UnsupportedOperationException.class, () -> x.fail(0, 0, 1));
        CHECK.dueThrow("fail(0, 0, 0)", UnsupportedOperationException.class, () -> x.fail(0, 0, 0));
        CHECK.dueThrow("fail(1, 199, 1), the first one's level", UnsupportedOperationException.class,
                () -> x.fail(1, 199, 1));
        CHECK.dueThrow("fail(0, 198, 1), the first one's worker", UnsupportedOperationException.class,
                () -> x.fail(0, 198, 1));
        CHECK.due("count(4)", 20, () -> x.count(4));
    }

    private static void twentyAndAmongThem() {
        CHECK.says("UnsupportedOperationException, when .. it is not among them: it is");
        ExploreShares x = withTwenty(2);
        CHECK.due("fail(0, 0, 1), the first one", 20, () -> x.fail(0, 0, 1));
        CHECK.due("fail(0, 19, 1000), the last one", 20, () -> x.fail(0, 19, 1000));
        CHECK.due("fail(0, 10, 5)", 20, () -> x.fail(0, 10, 5));
        CHECK.due("fail(0, 19, 0)", 19, () -> x.fail(0, 19, 0));
    }

    /** Of 16 workers each one up to 14 fails in level 0, and the last five are told for levels 1 to 5. */
    private static void twentyAndNoneOfThemForgotten() {
        CHECK.says("A worker fails in a level: each of twenty");
        ExploreShares x = Made.chain(16, 1, 3);
        for (int w = 0; w < 15; w++) {
            x.fail(w, 0, 1);
        }
        for (int k = 1; k <= 5; k++) {
            x.fail(15, k, 1);
        }
        CHECK.due("count(4)", 20, () -> x.count(4));
        CHECK.due("run(4)", 3, () -> x.run(4));
        CHECK.due("count(10)", 15, () -> x.count(10));
        CHECK.due("count(9)", 1, () -> x.count(9));
        for (int k = 0; k < 15; k++) {
            int failing = k;
            CHECK.due("failed(" + k + ", 0)", k, () -> x.failed(failing, 0));
            CHECK.due("failed(" + k + ", 1)", 0, () -> x.failed(failing, 1));
            CHECK.due("failed(" + k + ", 2)", 0, () -> x.failed(failing, 2));
        }
    }

    private static void takenBackMakesRoom() {
        CHECK.says("UnsupportedOperationException, when there are twenty: with one taken back there are 19");
        for (int back : new int[] {0, 10, 19}) {
            ExploreShares x = withTwenty(2);
            CHECK.due("fail(0, " + back + ", 0)", 19, () -> x.fail(0, back, 0));
            CHECK.due("fail(1, 0, 0), not told", 19, () -> x.fail(1, 0, 0));
            CHECK.due("fail(1, 0, 1)", 20, () -> x.fail(1, 0, 1));
            CHECK.dueThrow("fail(0, " + back + ", 1)", UnsupportedOperationException.class, () -> x.fail(0, back, 1));
            for (int level = 0; level < 20; level++) {
                int told = level;
                if (level != back) {
                    CHECK.due("fail(0, " + level + ", 6), still told", 20, () -> x.fail(0, told, 6));
                }
            }
        }
    }

    /** Of two workers states 0 to 2 are worker 0's, which has four turns in level 0 and two in level 1. */
    private static void oneTakenBackLeavesTheOthers() {
        CHECK.says("With n 0 it does not fail there: in this level alone, and this worker alone");
        ExploreShares x = ownMoves();
        x.fail(1, 0, 1);
        x.fail(1, 3, 4);
        x.fail(0, 1, 2);
        x.fail(0, 0, 4);
        CHECK.due("fail(1, 0, 0), the first one", 3, () -> x.fail(1, 0, 0));
        x.run(1);
        CHECK.due("failed(0, 0)", 0, () -> x.failed(0, 0));
        CHECK.due("failed(0, 1)", 0, () -> x.failed(0, 1));
        CHECK.due("failed(0, 2)", 3, () -> x.failed(0, 2));
        CHECK.due("fail(0, 0, 0), the last one told", 2, () -> x.fail(0, 0, 0));
        x.run(1);
        CHECK.due("failed(0, 1)", 1, () -> x.failed(0, 1));
        CHECK.due("failed(0, 2)", 5, () -> x.failed(0, 2));
        CHECK.due("fail(1, 3, 0)", 1, () -> x.fail(1, 3, 0));
        x.run(1);
        CHECK.due("failed(0, 2)", 5, () -> x.failed(0, 2));
        CHECK.due("fail(0, 1, 0)", 0, () -> x.fail(0, 1, 0));
        x.run(1);
        CHECK.due("count(10)", 0, () -> x.count(10));
    }

    private static void aRefusedFailingChangesNothing() {
        CHECK.says("UnsupportedOperationException and the others: nothing is told");
        ExploreShares x = ownMoves();
        x.fail(0, 0, 2);
        for (int level = 1; level < 20; level++) {
            x.fail(1, level, 900);
        }
        x.run(2);
        String before = Answers.of(x);
        CHECK.dueThrow("fail(1, 20, 1)", UnsupportedOperationException.class, () -> x.fail(1, 20, 1));
        CHECK.dueThrow("fail(1, 20, 0)", UnsupportedOperationException.class, () -> x.fail(1, 20, 0));
        CHECK.dueThrow("fail(0, 0, 1001)", IllegalArgumentException.class, () -> x.fail(0, 0, 1001));
        CHECK.dueThrow("fail(0, 0, -1)", IllegalArgumentException.class, () -> x.fail(0, 0, -1));
        CHECK.dueThrow("fail(2, 0, 1)", IndexOutOfBoundsException.class, () -> x.fail(2, 0, 1));
        CHECK.due("all answers", before, Answers.of(x));
        x.run(2);
        CHECK.due("all answers of a new run", before, Answers.of(x));
    }

    private static void theFirstLevelAndTurn() {
        CHECK.says("A worker fails in a level (0 .. 199), in its turn n there (1 .. 1000): the first of both");
        ExploreShares x = ownMoves();
        x.fail(0, 0, 1);
        CHECK.due("run(0)", 3, () -> x.run(0));
        CHECK.due("failed(0, 0)", 0, () -> x.failed(0, 0));
        CHECK.due("failed(0, 1)", 0, () -> x.failed(0, 1));
        CHECK.due("failed(0, 2)", 0, () -> x.failed(0, 2));
        CHECK.due("worker(0, 0)", 0, () -> x.worker(0, 0));
    }

    /** A chain of 200 states has the levels 0 to 199. */
    private static void theLastLevel() {
        CHECK.says("A worker fails in a level (0 .. 199): the last one");
        ExploreShares x = Made.chain(2, 1, 200);
        int last = x.owner(199);
        CHECK.due("fail(" + last + ", 199, 1)", 1, () -> x.fail(last, 199, 1));
        CHECK.due("run(0)", 200, () -> x.run(0));
        CHECK.due("count(10)", 1, () -> x.count(10));
        CHECK.due("failed(0, 0)", last, () -> x.failed(0, 0));
        CHECK.due("failed(0, 1)", 199, () -> x.failed(0, 1));
        CHECK.due("owner(199)", 1 - last, () -> x.owner(199));
        CHECK.due("times(199)", 1, () -> x.times(199));
    }

    /** Of three workers state 1 is worker 2's, whose queue of one lets worker 0 stall again and again. */
    private static ExploreShares longLevel() {
        ExploreShares x = Made.withStates(3, 1, 2);
        for (int m = 0; m < 500; m++) {
            x.move(0, 1);
        }
        return x;
    }

    /** Each of these objects is used for less than 512 calls. */
    private static void theLastTurn() {
        CHECK.says("In its turn n there (1 .. 1000): the last one");
        boolean[] seen = new boolean[3];
        for (int seed = 0; seed < 500 && !(seen[0] && seen[1] && seen[2]); seed++) {
            int tried = seed;
            ExploreShares plain = longLevel();
            plain.run(seed);
            int turns = plain.worker(0, 0);
            if (turns < 999 || turns > 1001 || seen[turns - 999]) {
                continue;
            }
            seen[turns - 999] = true;
            ExploreShares x = longLevel();
            x.fail(0, 0, 1000);
            CHECK.due("run of " + turns + " turns", 2, () -> x.run(tried));
            CHECK.due("count(10) with " + turns + " turns", turns < 1000 ? 0 : 1, () -> x.count(10));
            CHECK.due("worker(0, 0) with " + turns + " turns", 999, () -> x.worker(0, 0));
            CHECK.due("times(0) with " + turns + " turns", turns < 1000 ? 1 : 2, () -> x.times(0));
        }
        for (int i = 0; i < 3; i++) {
            CHECK.due("a run of " + (999 + i) + " turns was found", "true", Boolean.toString(seen[i]));
        }
    }
}
