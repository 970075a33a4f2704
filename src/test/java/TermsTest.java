/** The edges of what the document says under "What it is" and "Terms"; owners are under promise 7. */
public final class TermsTest {
    private static final Check CHECK = new Check("TermsTest");

    public static void main(String[] args) {
        call512();
        laterCallsEndAsWell();
        queuesUpToQ();
        theMoveThatStalledIsTheNextOne();
        listsByNumber();
        listsByNumberWithWhatOthersHad();
        turnsByNumber();
        turnsOfThoseNotDone();
        theQueueFirst();
        knownStatesGoThroughQueues();
        anEmptySetEndsTheRun();
        failsInItsLastTurnThere();
        failsWhenItStalls();
        failsWhenItTakesOut();
        setsAndQueuesAreEmpty();
        countedAnewEachTime();
        notWithTheTurnsOfAnotherLevel();
        severalFailInOneLevel();
        theLastLiveOneGoesOn();
        theNumberGoesOn();
        CHECK.end();
    }

    private static void call512() {
        CHECK.says("An object is used for at most 512 calls");
        ExploreShares x = Made.chain(16, 8, 200);
        for (int k = 0; k < 20; k++) {
            x.fail(k % 16, 10 * k, 1);
        }
        x.run(1);
        for (int call = 421; call <= 511; call++) {
            int state = call - 400;
            CHECK.due("call " + call + " level(" + state + ")", state, () -> x.level(state));
        }
        CHECK.due("call 512 run(2)", 200, () -> x.run(2));
    }

    /** Answers are free there, but LANGUAGE.md lets nothing else be thrown than what the face names. */
    private static void laterCallsEndAsWell() {
        CHECK.says("What later calls answer is free");
        ExploreShares x = Made.withStates(16, 1, 200);
        for (int m = 0; m < 600; m++) {
            x.move(m * 31 % 200, m * m % 200);
        }
        for (int k = 0; k < 20; k++) {
            x.fail(k % 16, k / 4, 1 + k);
        }
        for (int seed = 0; seed < 50; seed++) {
            int tried = seed;
            int far = Integer.MAX_VALUE - seed;
            boolean thrown = Check.answer(() -> x.run(tried)).startsWith("throws");
            CHECK.due("whether a late run throws", "false", Boolean.toString(thrown));
            CHECK.dueThrow("a late state()", UnsupportedOperationException.class, x::state);
            CHECK.dueThrow("a late move", UnsupportedOperationException.class, () -> x.move(tried, tried));
            CHECK.dueThrow("a late level", IndexOutOfBoundsException.class, () -> x.level(far));
            CHECK.dueThrow("a late way", IndexOutOfBoundsException.class, () -> x.way(tried, far));
        }
    }

    /**
     * Of two workers state 3 is worker 1's. Worker 0 has all turns until its queue is full, stalls once, and
     * puts the last one when worker 1 has taken one out.
     */
    private static void queuesUpToQ() {
        CHECK.says("An IN-QUEUE of at most Q states .. when that is full (a STALL)");
        for (int q = 2; q <= 8; q++) {
            int[][] turns = new int[q + 3][];
            turns[0] = new int[] {1, 0};
            for (int t = 1; t <= q; t++) {
                turns[t] = new int[] {2, 0};
            }
            turns[q + 1] = new int[] {2, 1};
            turns[q + 2] = new int[] {2, 0};
            int seed = Seeds.where(turns);
            int[][] stallsAndMost = {{q - 1, 0, q - 1}, {q, 0, q}, {q + 1, 1, q}};
            for (int[] row : stallsAndMost) {
                ExploreShares x = Made.withStates(2, q, 4);
                for (int m = 0; m < row[0]; m++) {
                    x.move(0, 3);
                }
                x.run(seed);
                String when = " of Q " + q + " with " + row[0] + " moves";
                CHECK.due("worker(0, 2)" + when, row[1], () -> x.worker(0, 2));
                CHECK.due("count(8)" + when, row[2], () -> x.count(8));
                CHECK.due("worker(1, 1)" + when, row[0], () -> x.worker(1, 1));
                CHECK.due("worker(0, 0)" + when, row[0] + row[1], () -> x.worker(0, 0));
            }
        }
    }

    /** With a queue of one: the second move stalls three times, is made, and none is left out or made twice. */
    private static void theMoveThatStalledIsTheNextOne() {
        CHECK.says("When that is full (a STALL) the move stays its next one");
        ExploreShares x = Made.withMoves(2, 1, 6, new int[][] {{0, 3}, {0, 4}, {0, 5}, {0, 1}});
        int seed = Seeds.where(
                new int[] {1, 0}, // 3 is put
                new int[] {2, 0}, // 4 stalls
                new int[] {2, 0},
                new int[] {2, 0},
                new int[] {2, 1}, // 3 is taken out
                new int[] {1, 0}, // 4 is put
                new int[] {2, 1}, // 4 is taken out
                new int[] {1, 0}, // 5 is put
                new int[] {2, 0}); // state 1 is its own
        CHECK.due("run", 5, () -> x.run(seed));
        CHECK.due("worker(0, 2)", 3, () -> x.worker(0, 2));
        CHECK.due("worker(1, 1)", 3, () -> x.worker(1, 1));
        CHECK.due("worker(0, 0)", 8, () -> x.worker(0, 0));
        CHECK.due("times(0)", 1, () -> x.times(0));
        CHECK.due("level(4)", 1, () -> x.level(4));
        CHECK.due("level(5)", 1, () -> x.level(5));
    }

    /** Of two workers states 0, 1 and 2 are worker 0's: which one it looked at before it failed tells the order. */
    private static void listsByNumber() {
        CHECK.says("The states of the level that it owns, by number");
        ExploreShares x = Made.withMoves(2, 1, 3, new int[][] {{0, 2}, {0, 1}});
        x.fail(0, 1, 2);
        x.run(1);
        CHECK.due("times(1)", 2, () -> x.times(1));
        CHECK.due("times(2)", 1, () -> x.times(2));
    }

    /** Of three workers state 5 is worker 1's, states 1 and 6 are worker 2's, which has 5 too when 1 failed. */
    private static void listsByNumberWithWhatOthersHad() {
        CHECK.says("The states of the level that it owns, by number: also what others had");
        ExploreShares x = Made.withMoves(3, 8, 7, new int[][] {{0, 1}, {0, 5}, {0, 6}});
        x.fail(1, 1, 1);
        x.fail(2, 1, 3);
        x.run(Seeds.where(
                new int[] {1, 0}, // 1 goes to worker 2
                new int[] {2, 0}, // 5 goes to worker 1
                new int[] {3, 0}, // 6 goes to worker 2, and worker 0 is done
                new int[] {2, 0}, // worker 1 takes out
                new int[] {1, 0},
                new int[] {1, 0},
                new int[] {2, 0})); // level 1: worker 1 fails
        CHECK.due("count(10)", 2, () -> x.count(10));
        CHECK.due("failed(0, 2)", 6, () -> x.failed(0, 2));
        CHECK.due("failed(1, 2)", 8, () -> x.failed(1, 2));
        CHECK.due("times(1)", 2, () -> x.times(1));
        CHECK.due("times(5)", 2, () -> x.times(5));
        CHECK.due("times(6)", 1, () -> x.times(6));
        CHECK.due("worker(0, 3)", 4, () -> x.worker(0, 3));
    }

    /** Of four workers states 2, 4, 1 and 3 are those of workers 0 to 3: whose first turn it is, that fails. */
    private static void turnsByNumber() {
        CHECK.says("The worker is number x / 65536 modulo n of the n live ones that are not DONE (by number)");
        for (int p = 0; p < 4; p++) {
            ExploreShares x = Made.withMoves(4, 8, 5, new int[][] {{0, 1}, {0, 2}, {0, 3}, {0, 4}});
            for (int w = 0; w < 4; w++) {
                x.fail(w, 1, 1);
            }
            x.run(Seeds.where(
                    new int[] {1, 0}, // 1 goes to worker 2
                    new int[] {2, 0}, // 2 is its own
                    new int[] {2, 0}, // 3 goes to worker 3
                    new int[] {3, 0}, // 4 goes to worker 1, and worker 0 is done
                    new int[] {3, 0}, // workers 1, 2 and 3 take out
                    new int[] {2, 0},
                    new int[] {1, 0},
                    new int[] {4, p}));
            CHECK.due("failed(0, 0) with place " + p, p, () -> x.failed(0, 0));
            CHECK.due("failed(0, 1) with place " + p, 1, () -> x.failed(0, 1));
            CHECK.due("failed(0, 2) with place " + p, 7, () -> x.failed(0, 2));
        }
    }

    /** As before, without the state of worker 1, which then is done from the beginning of level 1 on. */
    private static void turnsOfThoseNotDone() {
        CHECK.says("DONE: no state of its list left, its queue empty");
        int[] workers = {0, 2, 3};
        for (int p = 0; p < 3; p++) {
            ExploreShares x = Made.withMoves(4, 8, 5, new int[][] {{0, 1}, {0, 2}, {0, 3}});
            for (int w = 0; w < 4; w++) {
                x.fail(w, 1, 1);
            }
            x.run(Seeds.where(
                    new int[] {1, 0},
                    new int[] {2, 0},
                    new int[] {2, 0}, // 3 goes to worker 3, and worker 0 is done
                    new int[] {2, 1}, // worker 3 takes out, and is done
                    new int[] {1, 0},
                    new int[] {3, p}));
            CHECK.due("failed(0, 0) with place " + p, workers[p], () -> x.failed(0, 0));
            CHECK.due("failed(0, 2) with place " + p, 5, () -> x.failed(0, 2));
        }
    }

    /**
     * Of two workers states 0 and 1 are worker 0's, 3 is worker 1's. In level 1 state 1 leads to 4 of worker 1,
     * before that looked at its state 3: its first turn is to take 4 out, and in the second one it fails.
     */
    private static void theQueueFirst() {
        CHECK.says("If its queue has a state that is taken out .. else it takes its next move");
        ExploreShares x = Made.withMoves(2, 2, 5, new int[][] {{0, 3}, {0, 1}, {1, 4}, {1, 0}});
        x.fail(1, 1, 2);
        x.run(Seeds.where(
                new int[] {1, 0}, // 3 goes to worker 1
                new int[] {2, 0}, // 1 is its own
                new int[] {1, 0}, // worker 1 takes 3 out
                new int[] {2, 0}, // level 1: 4 goes to worker 1
                new int[] {2, 1}, // worker 1 takes 4 out
                new int[] {2, 1})); // and fails
        CHECK.due("count(10)", 1, () -> x.count(10));
        CHECK.due("worker(1, 1)", 2, () -> x.worker(1, 1));
        CHECK.due("times(3)", 1, () -> x.times(3));
        CHECK.due("times(1)", 2, () -> x.times(1));
        CHECK.due("level(4)", 2, () -> x.level(4));
    }

    /** State 3 of worker 1 leads back to 0, which is of level 0, and to itself. */
    private static void knownStatesGoThroughQueues() {
        CHECK.says("Comes into the set, if it is of no level up to this and not in it");
        ExploreShares x = Made.withMoves(2, 2, 4, new int[][] {{0, 3}, {0, 3}, {3, 0}, {3, 0}, {3, 3}});
        CHECK.due("run(1)", 2, () -> x.run(1));
        CHECK.due("worker(0, 1)", 2, () -> x.worker(0, 1));
        CHECK.due("worker(1, 1)", 2, () -> x.worker(1, 1));
        CHECK.due("level(0)", 0, () -> x.level(0));
        CHECK.due("level(3)", 1, () -> x.level(3));
        CHECK.due("size(1)", 1, () -> x.size(1));
        CHECK.due("count(6)", 2, () -> x.count(6));
    }

    private static void anEmptySetEndsTheRun() {
        CHECK.says("When all are done the level ends, sets are the next level; an empty one ends the run.");
        ExploreShares x = Made.withMoves(1, 1, 4, new int[][] {{0, 1}, {1, 2}, {2, 0}, {2, 1}, {2, 2}, {3, 3}});
        CHECK.due("run(1)", 3, () -> x.run(1));
        CHECK.due("count(6)", 3, () -> x.count(6));
        CHECK.due("count(7), all moves of the last level too", 5, () -> x.count(7));
    }

    /** Of two workers states 0 to 2 are worker 0's: three turns in level 0. */
    private static void failsInItsLastTurnThere() {
        CHECK.says("Fails in its turn number n there (from 1");
        for (int n = 1; n <= 4; n++) {
            ExploreShares x = Made.withMoves(2, 1, 3, new int[][] {{0, 1}, {0, 2}, {0, 0}});
            x.fail(0, 0, n);
            CHECK.due("run(1) with n " + n, 3, () -> x.run(1));
            CHECK.due("count(10) with n " + n, n <= 3 ? 1 : 0, () -> x.count(10));
            CHECK.due("worker(0, 0) with n " + n, n <= 3 ? n - 1 : 5, () -> x.worker(0, 0));
            CHECK.due("worker(1, 0) with n " + n, n <= 3 ? 5 : 0, () -> x.worker(1, 0));
        }
    }

    private static void failsWhenItStalls() {
        CHECK.says("Its turn number n: a turn in which it stalls is one");
        ExploreShares x = Made.withMoves(2, 1, 4, new int[][] {{0, 3}, {0, 3}});
        x.fail(0, 0, 3);
        x.run(Seeds.where(
                new int[] {1, 0}, // puts
                new int[] {2, 0}, // stalls
                new int[] {2, 0})); // fails, where it would stall
        CHECK.due("count(10)", 1, () -> x.count(10));
        CHECK.due("worker(0, 0)", 2, () -> x.worker(0, 0));
        CHECK.due("worker(0, 2)", 1, () -> x.worker(0, 2));
        CHECK.due("failed(0, 2)", 2, () -> x.failed(0, 2));
    }

    /** Worker 1 has no list in level 0: its turns there are those in which it takes states out. */
    private static void failsWhenItTakesOut() {
        CHECK.says("Its turn number n: a turn in which it takes a state out is one");
        for (int n = 1; n <= 3; n++) {
            ExploreShares x = Made.withMoves(2, 2, 4, new int[][] {{0, 3}, {0, 3}});
            x.fail(1, 0, n);
            x.run(Seeds.where(new int[] {1, 0}, new int[] {2, 0}));
            CHECK.due("count(10) with n " + n, n <= 2 ? 1 : 0, () -> x.count(10));
            CHECK.due("worker(1, 1) with n " + n, n - 1, () -> x.worker(1, 1));
            CHECK.due("times(0) with n " + n, n <= 2 ? 2 : 1, () -> x.times(0));
            CHECK.due("owner(3) with n " + n, n <= 2 ? 0 : 1, () -> x.owner(3));
        }
    }

    /** Worker 1 has a state in its queue when worker 0 fails: it never takes it out. */
    private static void setsAndQueuesAreEmpty() {
        CHECK.says("All sets and queues are empty, the level is gone through anew, from all its beginnings");
        ExploreShares x = Made.withMoves(2, 1, 4, new int[][] {{0, 3}, {0, 3}});
        x.fail(0, 0, 2);
        x.run(Seeds.where(new int[] {1, 0}, new int[] {2, 0}));
        CHECK.due("count(10)", 1, () -> x.count(10));
        CHECK.due("worker(1, 1)", 0, () -> x.worker(1, 1));
        CHECK.due("worker(1, 0)", 3, () -> x.worker(1, 0));
        CHECK.due("count(7)", 4, () -> x.count(7));
        CHECK.due("times(0)", 2, () -> x.times(0));
    }

    /**
     * Of three workers state 0 is worker 0's, 1 is worker 2's. Worker 2 takes two out before worker 0 fails,
     * and three when worker 1 goes through all anew: never is there a fourth turn of it in level 0.
     */
    private static void countedAnewEachTime() {
        CHECK.says("Counted anew each time that the level is gone through");
        for (int n = 3; n <= 4; n++) {
            ExploreShares x = Made.withMoves(3, 8, 2, new int[][] {{0, 1}, {0, 1}, {0, 1}});
            x.fail(0, 0, 3);
            x.fail(2, 0, n);
            x.run(Seeds.where(
                    new int[] {1, 0}, // worker 0 puts
                    new int[] {2, 1}, // worker 2 takes out
                    new int[] {1, 0}, // worker 0 puts
                    new int[] {2, 1})); // worker 2 takes out; worker 0 alone is not done, and fails
            CHECK.due("failed(0, 2) with n " + n, 4, () -> x.failed(0, 2));
            CHECK.due("count(10) with n " + n, n == 3 ? 2 : 1, () -> x.count(10));
            CHECK.due("worker(2, 1) with n " + n, n == 3 ? 4 : 5, () -> x.worker(2, 1));
        }
    }

    /** Four turns of worker 0 in level 0, two in level 1: it has no third one in level 1. */
    private static void notWithTheTurnsOfAnotherLevel() {
        CHECK.says("A worker told to fail in a level fails in its turn number n there");
        ExploreShares x = Made.withMoves(2, 1, 3, new int[][] {{0, 1}, {0, 2}, {0, 1}, {0, 2}});
        x.fail(0, 1, 3);
        x.run(1);
        CHECK.due("count(10) with n 3", 0, () -> x.count(10));
        x.fail(0, 1, 2);
        x.run(1);
        CHECK.due("count(10) with n 2", 1, () -> x.count(10));
        CHECK.due("failed(0, 1)", 1, () -> x.failed(0, 1));
        CHECK.due("failed(0, 2)", 5, () -> x.failed(0, 2));
    }

    private static void severalFailInOneLevel() {
        CHECK.says("A worker told to fail in a level: one after the other in the same level");
        ExploreShares x = Made.withMoves(4, 1, 1, new int[][] {{0, 0}, {0, 0}});
        x.fail(0, 0, 2);
        x.fail(1, 0, 1);
        x.fail(2, 0, 2);
        CHECK.due("run(1)", 1, () -> x.run(1));
        CHECK.due("count(10)", 3, () -> x.count(10));
        int[] before = {1, 1, 2};
        for (int k = 0; k < 3; k++) {
            int failing = k;
            CHECK.due("failed(" + k + ", 0)", k, () -> x.failed(failing, 0));
            CHECK.due("failed(" + k + ", 2)", before[k], () -> x.failed(failing, 2));
        }
        CHECK.due("times(0)", 3, () -> x.times(0));
        CHECK.due("count(7)", 4, () -> x.count(7));
    }

    /** Told to fail in both levels, and no other one is live: it has all its turns. */
    private static void theLastLiveOneGoesOn() {
        CHECK.says("If another one is live");
        ExploreShares x = Made.star(2, 1, 3);
        x.fail(0, 0, 1);
        x.fail(1, 0, 1);
        x.fail(1, 1, 2);
        CHECK.due("run(1)", 4, () -> x.run(1));
        CHECK.due("count(10)", 1, () -> x.count(10));
        CHECK.due("worker(1, 0)", 6, () -> x.worker(1, 0));
        CHECK.due("worker(1, 4)", 1, () -> x.worker(1, 4));
        CHECK.due("times(3)", 1, () -> x.times(3));
    }

    /**
     * Of three workers state 0 is worker 0's and then worker 1's, 1 is worker 2's, with a queue of one. The
     * second number would let worker 2 take out, if it were not used for worker 1's first move already.
     */
    private static void theNumberGoesOn() {
        CHECK.says("x goes on");
        ExploreShares x = Made.withMoves(3, 1, 2, new int[][] {{0, 1}, {0, 1}});
        x.fail(0, 0, 1);
        x.run(Seeds.where(
                new int[] {1, 0}, // worker 0 fails
                new int[] {2, 1}, // worker 1 alone is not done: it puts
                new int[] {2, 0}, // worker 1 stalls
                new int[] {2, 0}, // and again
                new int[] {2, 1})); // worker 2 takes out
        CHECK.due("failed(0, 2)", 0, () -> x.failed(0, 2));
        CHECK.due("worker(1, 2)", 2, () -> x.worker(1, 2));
        CHECK.due("worker(2, 1)", 2, () -> x.worker(2, 1));
        CHECK.due("count(7)", 7, () -> x.count(7));
    }
}
