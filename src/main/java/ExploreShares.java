import java.util.Arrays;

/**
 * States that several workers go through together, level by level: each state has an owner, what one
 * finds for another goes through a small queue, and turns come by a seed. A worker that fails takes
 * its level back to its beginning.
 */
public final class ExploreShares {

    public static final int NONE = -1;

    private static final int MOST_WORKERS = 16;
    private static final int MOST_QUEUED = 8;
    private static final int MOST_STATES = 200;
    private static final int MOST_MOVES = 600;
    private static final int MOST_FAILINGS = 20;
    private static final int LAST_TURN_TO_FAIL = 1000;
    private static final int LOW_31_BITS = 0x7fffffff;
    // Far above what a level can need: it only makes the end of the loop over turns plain.
    private static final int MOST_TURNS = 1000000;

    private final Search search;
    private final Net net;
    private final FailPlan plan;
    private final Crew crew;

    public ExploreShares(int workers, int queue) {
        search = new Search(1 + Math.floorMod(workers - 1, MOST_WORKERS), 1 + Math.floorMod(queue - 1, MOST_QUEUED));
        net = search.net;
        plan = search.plan;
        crew = search.crew;
    }

    public int state() throws UnsupportedOperationException {
        if (net.states >= MOST_STATES) {
            throw new UnsupportedOperationException("there are 200 states");
        }
        search.forget();
        return net.addState();
    }

    public int move(int from, int to) throws IllegalArgumentException, UnsupportedOperationException {
        if (!net.has(from) || !net.has(to)) {
            throw new IllegalArgumentException("no such state");
        }
        if (net.moves >= MOST_MOVES) {
            throw new UnsupportedOperationException("there are 600 moves");
        }
        search.forget();
        net.addMove(from, to);
        return net.moves;
    }

    public int fail(int worker, int level, int n)
            throws IndexOutOfBoundsException, IllegalArgumentException, UnsupportedOperationException {
        if (!crew.has(worker)) {
            throw new IndexOutOfBoundsException("no such worker");
        }
        if (level < 0 || level >= MOST_STATES || n < 0 || n > LAST_TURN_TO_FAIL) {
            throw new IllegalArgumentException("no such level or turn");
        }
        if (plan.told >= MOST_FAILINGS && plan.placeOf(worker, level) == NONE) {
            throw new UnsupportedOperationException("twenty failings are told");
        }
        search.forget();
        plan.tell(worker, level, n);
        return plan.told;
    }

    public int run(int seed) throws IllegalStateException {
        if (net.states == 0) {
            throw new IllegalStateException("no states");
        }
        search.explore(seed);
        return search.levels.cameInAll();
    }

    public int level(int state) throws IndexOutOfBoundsException {
        if (!net.has(state)) {
            throw new IndexOutOfBoundsException("no such state");
        }
        return search.levels.levelOf[state];
    }

    public int owner(int state) throws IndexOutOfBoundsException {
        if (!net.has(state)) {
            throw new IndexOutOfBoundsException("no such state");
        }
        return crew.ownerOf(state);
    }

    public int times(int state) throws IndexOutOfBoundsException {
        if (!net.has(state)) {
            throw new IndexOutOfBoundsException("no such state");
        }
        return search.looks[state];
    }

    public int way(int state, int k) throws IndexOutOfBoundsException {
        // A state that never came has level NONE, which no k from 0 on reaches.
        if (!net.has(state) || k < 0 || k > search.levels.levelOf[state]) {
            throw new IndexOutOfBoundsException("no such state on a way");
        }
        return search.ways.stateAt(net, search.levels, state, k);
    }

    public int worker(int worker, int what) throws IndexOutOfBoundsException {
        if (!crew.has(worker)) {
            throw new IndexOutOfBoundsException("no such worker");
        }
        switch (what) {
            case 0:
                return crew.turns[worker];
            case 1:
                return crew.taken[worker];
            case 2:
                return crew.stalls[worker];
            case 3:
                return crew.live[worker] ? search.cameOwnedBy(worker) : NONE;
            case 4:
                return crew.live[worker] ? 1 : 0;
            default:
                throw new IndexOutOfBoundsException("no such thing of a worker");
        }
    }

    public int failed(int k, int what) throws IndexOutOfBoundsException {
        FailLog log = search.log;
        if (k < 0 || k >= log.happened) {
            throw new IndexOutOfBoundsException("no such failing");
        }
        switch (what) {
            case 0:
                return log.worker[k];
            case 1:
                return log.level[k];
            case 2:
                return log.turnsBefore[k];
            default:
                throw new IndexOutOfBoundsException("no such thing of a failing");
        }
    }

    public int size(int k) throws IndexOutOfBoundsException {
        Levels levels = search.levels;
        if (k < 0 || k >= levels.levels) {
            throw new IndexOutOfBoundsException("no such level");
        }
        return levels.begin[k + 1] - levels.begin[k];
    }

    public int count(int what) {
        switch (what) {
            case 0:
                return crew.workers;
            case 1:
                return search.queues.room;
            case 2:
                return net.states;
            case 3:
                return net.moves;
            case 4:
                return plan.told;
            case 5:
                return search.levels.cameInAll();
            case 6:
                return search.levels.levels;
            case 7:
                return crew.allTurns;
            case 8:
                return search.queues.most;
            case 9:
                return crew.liveWorkers;
            case 10:
                return search.log.happened;
            default:
                return NONE;
        }
    }

    /** The number behind x, for owners and for turns alike. */
    private static int numberBehind(int x) {
        return (1103515245 * x + 12345) & LOW_31_BITS;
    }

    /** Which one of n the number x points at; x is not below 0. */
    private static int oneOf(int n, int x) {
        return n > 0 ? x / 65536 % n : 0;
    }

    private static void fillFlags(boolean[] row, boolean flag) {
        for (int i = 0; i < row.length; i++) {
            row[i] = flag;
        }
    }

    /** The states and moves that were told. */
    private static final class Net {
        private int states;
        private int moves;
        // The moves of state s are target[begin[s]] .. target[begin[s + 1] - 1], in the order told.
        private final int[] begin = new int[MOST_STATES + 1];
        private final int[] target = new int[MOST_MOVES];

        boolean has(int state) {
            return state >= 0 && state < states;
        }

        int addState() {
            states++;
            return states - 1;
        }

        void addMove(int from, int to) {
            int place = begin[from + 1];
            for (int m = moves; m > place; m--) {
                target[m] = target[m - 1];
            }
            target[place] = to;
            // States that are not there yet are counted too, so that a new one begins behind all moves.
            for (int s = from + 1; s <= MOST_STATES; s++) {
                begin[s]++;
            }
            moves++;
        }
    }

    /** The failings that were told. */
    private static final class FailPlan {
        private final int[] worker = new int[MOST_FAILINGS];
        private final int[] level = new int[MOST_FAILINGS];
        private final int[] turn = new int[MOST_FAILINGS];
        private int told;

        int placeOf(int w, int k) {
            for (int i = 0; i < told; i++) {
                if (worker[i] == w && level[i] == k) {
                    return i;
                }
            }
            return NONE;
        }

        void tell(int w, int k, int n) {
            int place = placeOf(w, k);
            if (place != NONE && n == 0) {
                takeBack(place);
            } else if (place != NONE) {
                turn[place] = n;
            } else if (n != 0 && told < MOST_FAILINGS) {
                worker[told] = w;
                level[told] = k;
                turn[told] = n;
                told++;
            }
        }

        private void takeBack(int place) {
            told--;
            worker[place] = worker[told];
            level[place] = level[told];
            turn[place] = turn[told];
        }

        /** The turn in which a worker is to fail in a level; NONE, when it is not to. */
        int turnOf(int w, int k) {
            int place = placeOf(w, k);
            return place == NONE ? NONE : turn[place];
        }
    }

    /** The failings that happened. */
    private static final class FailLog {
        private final int[] worker = new int[MOST_WORKERS];
        private final int[] level = new int[MOST_WORKERS];
        private final int[] turnsBefore = new int[MOST_WORKERS];
        private int happened;

        void add(int w, int k, int turns) {
            if (happened < MOST_WORKERS) {
                worker[happened] = w;
                level[happened] = k;
                turnsBefore[happened] = turns;
                happened++;
            }
        }
    }

    /** The workers: who is live, who owns what, and what each one did in a run. */
    private static final class Crew {
        private final int workers;
        private final int[] firstOwner = new int[MOST_STATES];
        private final boolean[] live = new boolean[MOST_WORKERS];
        private final int[] turns = new int[MOST_WORKERS];
        private final int[] taken = new int[MOST_WORKERS];
        private final int[] stalls = new int[MOST_WORKERS];
        private int liveWorkers;
        private int allTurns;

        Crew(int workers) {
            this.workers = workers;
            liveWorkers = workers;
            fillFlags(live, true);
            for (int s = 0; s < MOST_STATES; s++) {
                firstOwner[s] = oneOf(workers, numberBehind(s));
            }
        }

        boolean has(int w) {
            return w >= 0 && w < workers;
        }

        void startAnew() {
            fillFlags(live, true);
            Arrays.fill(turns, 0);
            Arrays.fill(taken, 0);
            Arrays.fill(stalls, 0);
            liveWorkers = workers;
            allTurns = 0;
        }

        int ownerOf(int state) {
            int w = firstOwner[state];
            for (int i = 0; i < workers && !live[w]; i++) {
                w = w + 1 < workers ? w + 1 : 0;
            }
            return w;
        }

        void countTurn(int w) {
            turns[w]++;
            allTurns++;
        }

        void lose(int w) {
            live[w] = false;
            liveWorkers--;
        }
    }

    /** The in-queues of all workers: rings of eight places, of which room may be taken. */
    private static final class Queues {
        private final int room;
        private final int[][] ring = new int[MOST_WORKERS][MOST_QUEUED];
        private final int[] first = new int[MOST_WORKERS];
        private final int[] held = new int[MOST_WORKERS];
        private int most;

        Queues(int room) {
            this.room = room;
        }

        void empty() {
            Arrays.fill(first, 0);
            Arrays.fill(held, 0);
        }

        boolean isEmpty(int w) {
            return held[w] == 0;
        }

        boolean isFull(int w) {
            return held[w] >= room;
        }

        void put(int w, int state) {
            ring[w][(first[w] + held[w]) % MOST_QUEUED] = state;
            held[w]++;
            if (held[w] > most) {
                most = held[w];
            }
        }

        int take(int w) {
            int state = ring[w][first[w]];
            first[w] = (first[w] + 1) % MOST_QUEUED;
            held[w]--;
            return state;
        }
    }

    /** The workers' lists while a level is gone through, and how far each worker is. */
    private static final class Lists {
        private final int[][] list = new int[MOST_WORKERS][MOST_STATES];
        private final int[] listed = new int[MOST_WORKERS];
        private final int[] at = new int[MOST_WORKERS];
        private final int[] movesDone = new int[MOST_WORKERS];
        // A stall leaves a state with no move done, and yet it was looked at.
        private final boolean[] lookedAt = new boolean[MOST_WORKERS];
        private final int[] turns = new int[MOST_WORKERS];

        void empty() {
            Arrays.fill(listed, 0);
            Arrays.fill(at, 0);
            Arrays.fill(movesDone, 0);
            Arrays.fill(turns, 0);
            fillFlags(lookedAt, false);
        }

        void add(int w, int state) {
            if (listed[w] < MOST_STATES) {
                list[w][listed[w]] = state;
                listed[w]++;
            }
        }

        boolean hasMore(int w) {
            return at[w] < listed[w];
        }

        int current(int w) {
            return list[w][at[w]];
        }

        void goToNext(int w) {
            at[w]++;
            movesDone[w] = 0;
            lookedAt[w] = false;
        }
    }

    /** The levels found so far, and what is found of the next one. */
    private static final class Levels {
        private final int[] levelOf = new int[MOST_STATES];
        // Level k is order[begin[k]] .. order[begin[k + 1] - 1], by number.
        private final int[] order = new int[MOST_STATES];
        private final int[] begin = new int[MOST_STATES + 1];
        private int levels;
        // All workers' sets in one: a state can only be in its owner's.
        private final boolean[] found = new boolean[MOST_STATES];

        Levels() {
            Arrays.fill(levelOf, NONE);
        }

        void startAnew() {
            Arrays.fill(levelOf, NONE);
            levels = 0;
            emptySets();
        }

        void emptySets() {
            fillFlags(found, false);
        }

        int cameInAll() {
            return begin[levels];
        }

        void putIntoSet(int state) {
            if (levelOf[state] == NONE) {
                found[state] = true;
            }
        }

        /** Makes a level of the sets, unless they are empty. */
        void closeLevel(int states) {
            int came = begin[levels];
            for (int s = 0; s < states; s++) {
                if (found[s]) {
                    levelOf[s] = levels;
                    order[came] = s;
                    came++;
                }
            }
            if (came > begin[levels]) {
                levels++;
                begin[levels] = came;
            }
        }
    }

    /** Shortest ways from state 0. */
    private static final class Ways {
        // The states from which a shortest way leads on to the goal.
        private final boolean[] leads = new boolean[MOST_STATES];

        /** State k of the way to goal; k is not above goal's level. */
        int stateAt(Net net, Levels levels, int goal, int k) {
            markWhatLeadsTo(net, levels, goal);
            int state = 0;
            for (int step = 0; step < k && state != NONE; step++) {
                state = lowestBehind(net, levels, state);
            }
            return state;
        }

        private void markWhatLeadsTo(Net net, Levels levels, int goal) {
            fillFlags(leads, false);
            leads[goal] = true;
            for (int i = levels.begin[levels.levelOf[goal]] - 1; i >= 0; i--) {
                int state = levels.order[i];
                leads[state] = lowestBehind(net, levels, state) != NONE;
            }
        }

        /** The lowest state one level on that leads to the goal; NONE, when there is none. */
        private int lowestBehind(Net net, Levels levels, int state) {
            int lowest = NONE;
            for (int m = net.begin[state]; m < net.begin[state + 1]; m++) {
                int to = net.target[m];
                boolean goesOn = leads[to] && levels.levelOf[to] == levels.levelOf[state] + 1;
                if (goesOn && (lowest == NONE || to < lowest)) {
                    lowest = to;
                }
            }
            return lowest;
        }
    }

    /** A run through all levels: what it goes by, and what came of it. */
    private static final class Search {
        private final Net net = new Net();
        private final FailPlan plan = new FailPlan();
        private final Crew crew;
        private final Queues queues;
        private final Lists lists = new Lists();
        private final Levels levels = new Levels();
        private final FailLog log = new FailLog();
        private final Ways ways = new Ways();
        private final int[] looks = new int[MOST_STATES];
        private final int[] busy = new int[MOST_WORKERS];
        private int x;

        Search(int workers, int room) {
            crew = new Crew(workers);
            queues = new Queues(room);
        }

        void forget() {
            crew.startAnew();
            levels.startAnew();
            Arrays.fill(looks, 0);
            queues.most = 0;
            log.happened = 0;
        }

        void explore(int seed) {
            forget();
            x = seed & LOW_31_BITS;
            levels.putIntoSet(0);
            levels.closeLevel(net.states);
            int k = 0;
            // Each time ends a level or costs a worker.
            for (int time = 0; time < MOST_STATES + MOST_WORKERS && k < levels.levels; time++) {
                beginLevel(k);
                if (takeTurns(k)) {
                    levels.closeLevel(net.states);
                    k++;
                }
            }
        }

        int cameOwnedBy(int w) {
            int owned = 0;
            for (int i = 0; i < levels.cameInAll(); i++) {
                if (crew.ownerOf(levels.order[i]) == w) {
                    owned++;
                }
            }
            return owned;
        }

        private void beginLevel(int k) {
            levels.emptySets();
            queues.empty();
            lists.empty();
            for (int i = levels.begin[k]; i < levels.begin[k + 1]; i++) {
                int state = levels.order[i];
                lists.add(crew.ownerOf(state), state);
            }
        }

        /** Whether the level came to its end; if not, a worker failed. */
        private boolean takeTurns(int k) {
            for (int turn = 0; turn < MOST_TURNS; turn++) {
                int w = workerOfNextTurn();
                if (w == NONE) {
                    return true;
                }
                if (isToFail(w, k)) {
                    log.add(w, k, crew.allTurns);
                    crew.lose(w);
                    return false;
                }
                takeTurn(w);
            }
            return true;
        }

        /** NONE, when all are done. */
        private int workerOfNextTurn() {
            int n = 0;
            for (int w = 0; w < crew.workers; w++) {
                // Who is not live has no list and no queue: it owns nothing when a level begins.
                if (lists.hasMore(w) || !queues.isEmpty(w)) {
                    busy[n] = w;
                    n++;
                }
            }
            if (n == 0) {
                return NONE;
            }
            x = numberBehind(x);
            return busy[oneOf(n, x)];
        }

        private boolean isToFail(int w, int k) {
            return crew.liveWorkers > 1 && plan.turnOf(w, k) == lists.turns[w] + 1;
        }

        private void takeTurn(int w) {
            crew.countTurn(w);
            lists.turns[w]++;
            if (!queues.isEmpty(w)) {
                crew.taken[w]++;
                levels.putIntoSet(queues.take(w));
            } else if (lists.hasMore(w)) {
                takeMove(w);
            }
        }

        private void takeMove(int w) {
            int state = lists.current(w);
            if (!lists.lookedAt[w]) {
                lists.lookedAt[w] = true;
                looks[state]++;
            }
            int next = net.begin[state] + lists.movesDone[w];
            int end = net.begin[state + 1];
            if (next < end && !handOver(w, net.target[next])) {
                crew.stalls[w]++;
                return;
            }
            lists.movesDone[w]++;
            if (next + 1 >= end) {
                lists.goToNext(w);
            }
        }

        /** Brings a state to its owner; false, when the owner's queue is full. */
        private boolean handOver(int w, int state) {
            int owner = crew.ownerOf(state);
            if (owner == w) {
                levels.putIntoSet(state);
                return true;
            }
            if (queues.isFull(owner)) {
                return false;
            }
            queues.put(owner, state);
            return true;
        }
    }
}
