/** The edges of promise 7, owner. */
public final class Promise07OwnerTest {
    private static final Check CHECK = new Check("Promise07OwnerTest");

    public static void main(String[] args) {
        noSuchState();
        atFirst();
        atFirstThoughToFail();
        inTheEnd();
        behindTheLastOne();
        severalNotLive();
        allUpToOneNotLive();
        neverCameAndOwnedAllTheSame();
        CHECK.end();
    }

    private static void noSuchState() {
        CHECK.says("IndexOutOfBoundsException, when there is no such state.");
        for (int states : new int[] {0, 1, 5, 199, 200}) {
            ExploreShares x = Made.withStates(2, 2, states);
            CHECK.dueThrowOutside("owner before a run", states - 1, IndexOutOfBoundsException.class, x::owner);
            if (states > 0) {
                x.run(1);
                CHECK.dueThrowOutside("owner after a run", states - 1, IndexOutOfBoundsException.class, x::owner);
                CHECK.due("owner(0)", 0, () -> x.owner(0));
            }
        }
    }

    /** 1103515245 * state is beyond an int from state 2 on. */
    private static void atFirst() {
        CHECK.says("With x = 1103515245 * state + 12345 (its lowest 31 bits) the worker x / 65536 modulo W");
        for (int workers = 1; workers <= 16; workers++) {
            ExploreShares x = Made.withStates(workers, 1, 200);
            for (int s = 0; s < 200; s++) {
                int state = s;
                int want = (int) (Seeds.next(s) / 65536 % workers);
                CHECK.due("W " + workers + " owner(" + s + ")", want, () -> x.owner(state));
            }
        }
    }

    private static void atFirstThoughToFail() {
        CHECK.says("Before a run: at first");
        ExploreShares x = Made.star(2, 1, 3);
        x.fail(0, 0, 1);
        CHECK.due("owner(0) before a run", 0, () -> x.owner(0));
        x.run(1);
        CHECK.due("owner(0) after a run", 1, () -> x.owner(0));
        x.state();
        CHECK.due("owner(0) when it is gone", 0, () -> x.owner(0));
        CHECK.due("owner(3) when it is gone", 1, () -> x.owner(3));
    }

    private static void inTheEnd() {
        CHECK.says("Who owned a state in the end");
        ExploreShares x = Made.star(2, 1, 3);
        x.fail(0, 1, 1);
        x.run(1);
        CHECK.due("count(10)", 1, () -> x.count(10));
        for (int s = 0; s < 4; s++) {
            int state = s;
            CHECK.due("owner(" + s + ")", 1, () -> x.owner(state));
        }
    }

    /** Of 16 workers state 5 is worker 15's. */
    private static void behindTheLastOne() {
        CHECK.says("Of one that is not live the next live one behind it, round");
        ExploreShares x = Made.star(16, 8, 5);
        CHECK.due("owner(5) at first", 15, () -> x.owner(5));
        x.fail(15, 1, 1);
        x.run(1);
        CHECK.due("count(10)", 1, () -> x.count(10));
        CHECK.due("owner(5) in the end", 0, () -> x.owner(5));
        CHECK.due("owner(0) in the end", 0, () -> x.owner(0));
        CHECK.due("owner(1) in the end", 6, () -> x.owner(1));
    }

    /** Worker 15 fails in level 1; then its state is worker 0's, that fails too; then worker 1's, and so on. */
    private static void severalNotLive() {
        CHECK.says("Of one that is not live the next live one behind it: over several");
        ExploreShares x = Made.star(16, 8, 5);
        for (int w : new int[] {15, 0, 1, 2}) {
            x.fail(w, 1, 1);
        }
        x.run(1);
        CHECK.due("count(10)", 4, () -> x.count(10));
        CHECK.due("owner(5)", 3, () -> x.owner(5));
        CHECK.due("owner(0)", 3, () -> x.owner(0));
        CHECK.due("owner(3)", 3, () -> x.owner(3));
        CHECK.due("owner(4)", 9, () -> x.owner(4));
    }

    private static void allUpToOneNotLive() {
        CHECK.says("The next live one behind it, when none before that one is live");
        for (int last = 0; last < 16; last++) {
            int live = last;
            ExploreShares x = Made.withStates(16, 8, 200);
            for (int w = 0; w < 16; w++) {
                if (w != last) {
                    x.fail(w, 0, 1);
                }
            }
            // State 0 is worker 0's, and then the next one's, up to the one that does not fail.
            x.run(1);
            CHECK.due("count(10) with " + last + " live", last, () -> x.count(10));
            CHECK.due("owner(0) with " + last + " live", live, () -> x.owner(0));
            for (int s = 0; s < 200; s += 9) {
                int state = s;
                int first = (int) (Seeds.next(s) / 65536 % 16);
                CHECK.due("owner(" + s + ") with " + last + " live", Math.max(first, live), () -> x.owner(state));
            }
        }
    }

    private static void neverCameAndOwnedAllTheSame() {
        CHECK.says("Who owned a state in the end: also one that never came");
        ExploreShares x = Made.withStates(2, 1, 4);
        x.fail(0, 0, 1);
        x.run(1);
        CHECK.due("owner(1)", 1, () -> x.owner(1));
        CHECK.due("owner(2)", 1, () -> x.owner(2));
        CHECK.due("owner(3)", 1, () -> x.owner(3));
        CHECK.due("level(1)", -1, () -> x.level(1));
    }
}
