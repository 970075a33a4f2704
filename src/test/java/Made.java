/** Objects that several tests begin with. */
final class Made {
    private Made() {
    }

    static ExploreShares withStates(int workers, int queue, int states) {
        ExploreShares x = new ExploreShares(workers, queue);
        for (int s = 0; s < states; s++) {
            x.state();
        }
        return x;
    }

    static ExploreShares withMoves(int workers, int queue, int states, int[][] moves) {
        ExploreShares x = withStates(workers, queue, states);
        for (int[] move : moves) {
            x.move(move[0], move[1]);
        }
        return x;
    }

    /** State 0 leads to states 1 .. leaves, which have no moves. */
    static ExploreShares star(int workers, int queue, int leaves) {
        ExploreShares x = withStates(workers, queue, leaves + 1);
        for (int s = 1; s <= leaves; s++) {
            x.move(0, s);
        }
        return x;
    }

    /** Each state leads to the next one. */
    static ExploreShares chain(int workers, int queue, int states) {
        ExploreShares x = withStates(workers, queue, states);
        for (int s = 1; s < states; s++) {
            x.move(s - 1, s);
        }
        return x;
    }
}
