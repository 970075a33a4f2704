import java.util.ArrayDeque;
import java.util.ArrayList;
import java.util.Arrays;
import java.util.HashMap;
import java.util.List;
import java.util.Map;
import java.util.TreeMap;
import java.util.TreeSet;

/** The document's words once more, as plainly as the library lets them be said, to hold the class against. */
final class Model {
    private static final class Worker {
        boolean live = true;
        int turns;
        int taken;
        int stalls;
        int turnsHere;
        final ArrayDeque<Integer> list = new ArrayDeque<>();
        ArrayDeque<Integer> movesLeft;
        final ArrayDeque<Integer> queue = new ArrayDeque<>();
        final TreeSet<Integer> set = new TreeSet<>();
    }

    private final int w;
    private final int q;
    private final List<List<Integer>> moves = new ArrayList<>();
    private int moveCount;
    private final Map<List<Integer>, Integer> told = new HashMap<>();

    private boolean ran;
    private Worker[] workers;
    private final Map<Integer, Integer> levelOf = new TreeMap<>();
    private final List<TreeSet<Integer>> levels = new ArrayList<>();
    private final Map<Integer, Integer> looks = new HashMap<>();
    private final List<int[]> failings = new ArrayList<>();
    private int allTurns;
    private int most;
    private long x;

    Model(int workers, int queue) {
        w = (int) (1 + (((long) workers - 1) % 16 + 16) % 16);
        q = (int) (1 + (((long) queue - 1) % 8 + 8) % 8);
        forget();
    }

    private void forget() {
        ran = false;
        workers = new Worker[w];
        for (int i = 0; i < w; i++) {
            workers[i] = new Worker();
        }
        levelOf.clear();
        levels.clear();
        looks.clear();
        failings.clear();
        allTurns = 0;
        most = 0;
    }

    int state() {
        if (moves.size() == 200) {
            throw new UnsupportedOperationException();
        }
        forget();
        moves.add(new ArrayList<>());
        return moves.size() - 1;
    }

    private boolean none(int state) {
        return state < 0 || state >= moves.size();
    }

    int move(int from, int to) {
        if (none(from) || none(to)) {
            throw new IllegalArgumentException();
        }
        if (moveCount == 600) {
            throw new UnsupportedOperationException();
        }
        forget();
        moves.get(from).add(to);
        return ++moveCount;
    }

    int fail(int worker, int level, int n) {
        if (worker < 0 || worker >= w) {
            throw new IndexOutOfBoundsException();
        }
        if (level < 0 || level > 199 || n < 0 || n > 1000) {
            throw new IllegalArgumentException();
        }
        List<Integer> key = List.of(worker, level);
        if (told.size() == 20 && !told.containsKey(key)) {
            throw new UnsupportedOperationException();
        }
        forget();
        if (n == 0) {
            told.remove(key);
        } else {
            told.put(key, n);
        }
        return told.size();
    }

    private static long next(long from) {
        return Math.floorMod(1103515245L * from + 12345L, 1L << 31);
    }

    int owner(int state) {
        if (none(state)) {
            throw new IndexOutOfBoundsException();
        }
        int o = (int) (next(state) / 65536 % w);
        while (!workers[o].live) {
            o = (o + 1) % w;
        }
        return o;
    }

    int run(int seed) {
        if (moves.isEmpty()) {
            throw new IllegalStateException();
        }
        forget();
        ran = true;
        x = Math.floorMod((long) seed, 1L << 31);
        TreeSet<Integer> level = new TreeSet<>(List.of(0));
        while (!level.isEmpty()) {
            for (int s : level) {
                levelOf.put(s, levels.size());
            }
            levels.add(level);
            boolean ended = false;
            while (!ended) {
                ended = goThrough(levels.size() - 1);
            }
            level = new TreeSet<>();
            for (Worker worker : workers) {
                level.addAll(worker.set);
            }
        }
        return levelOf.size();
    }

    private boolean goThrough(int k) {
        for (Worker worker : workers) {
            worker.set.clear();
            worker.queue.clear();
            worker.list.clear();
            worker.movesLeft = null;
            worker.turnsHere = 0;
        }
        for (int s : levels.get(k)) {
            workers[owner(s)].list.add(s);
        }
        while (true) {
            List<Integer> notDone = new ArrayList<>();
            for (int i = 0; i < w; i++) {
                if (workers[i].live && !(workers[i].list.isEmpty() && workers[i].queue.isEmpty())) {
                    notDone.add(i);
                }
            }
            if (notDone.isEmpty()) {
                return true;
            }
            x = next(x);
            int i = notDone.get((int) (x / 65536 % notDone.size()));
            workers[i].turnsHere++;
            if (count(9) > 1 && told.getOrDefault(List.of(i, k), 0) == workers[i].turnsHere) {
                failings.add(new int[] {i, k, allTurns});
                workers[i].live = false;
                return false;
            }
            workers[i].turns++;
            allTurns++;
            turn(i, workers[i]);
        }
    }

    private void turn(int i, Worker me) {
        if (!me.queue.isEmpty()) {
            me.taken++;
            intoSet(me, me.queue.poll());
            return;
        }
        int s = me.list.peek();
        if (me.movesLeft == null) {
            looks.merge(s, 1, Integer::sum);
            me.movesLeft = new ArrayDeque<>(moves.get(s));
        }
        if (!me.movesLeft.isEmpty()) {
            int to = me.movesLeft.peek();
            int o = owner(to);
            if (o == i) {
                intoSet(me, to);
            } else if (workers[o].queue.size() == q) {
                me.stalls++;
                return;
            } else {
                workers[o].queue.add(to);
                most = Math.max(most, workers[o].queue.size());
            }
            me.movesLeft.poll();
        }
        if (me.movesLeft.isEmpty()) {
            me.list.poll();
            me.movesLeft = null;
        }
    }

    private void intoSet(Worker worker, int state) {
        if (!levelOf.containsKey(state)) {
            worker.set.add(state);
        }
    }

    int level(int state) {
        if (none(state)) {
            throw new IndexOutOfBoundsException();
        }
        return levelOf.getOrDefault(state, -1);
    }

    int times(int state) {
        if (none(state)) {
            throw new IndexOutOfBoundsException();
        }
        return looks.getOrDefault(state, 0);
    }

    int way(int state, int k) {
        if (none(state) || !ran) {
            throw new IndexOutOfBoundsException();
        }
        int[] left = stepsLeft(state);
        if (left[0] < 0 || k < 0 || k > left[0]) {
            throw new IndexOutOfBoundsException();
        }
        int here = 0;
        for (int step = 0; step < k; step++) {
            TreeSet<Integer> can = new TreeSet<>();
            for (int to : moves.get(here)) {
                if (left[to] == left[here] - 1 && left[to] >= 0) {
                    can.add(to);
                }
            }
            here = can.first();
        }
        return here;
    }

    /** For every state the fewest moves to the goal, -1 for none: levels are not asked. */
    private int[] stepsLeft(int goal) {
        int[] left = new int[moves.size()];
        Arrays.fill(left, -1);
        left[goal] = 0;
        boolean more = true;
        for (int d = 0; more; d++) {
            more = false;
            for (int s = 0; s < left.length; s++) {
                for (int to : moves.get(s)) {
                    if (left[s] < 0 && left[to] == d) {
                        left[s] = d + 1;
                        more = true;
                    }
                }
            }
        }
        return left;
    }

    int worker(int worker, int what) {
        if (worker < 0 || worker >= w || what < 0 || what > 4) {
            throw new IndexOutOfBoundsException();
        }
        Worker one = workers[worker];
        int owned = 0;
        for (int s : levelOf.keySet()) {
            owned += owner(s) == worker ? 1 : 0;
        }
        return new int[] {one.turns, one.taken, one.stalls, one.live ? owned : -1, one.live ? 1 : 0}[what];
    }

    int failed(int k, int what) {
        if (k < 0 || k >= failings.size() || what < 0 || what > 2) {
            throw new IndexOutOfBoundsException();
        }
        return failings.get(k)[what];
    }

    int size(int k) {
        if (k < 0 || k >= levels.size()) {
            throw new IndexOutOfBoundsException();
        }
        return levels.get(k).size();
    }

    int count(int what) {
        int live = 0;
        for (Worker one : workers) {
            live += one.live ? 1 : 0;
        }
        int[] all = {w, q, moves.size(), moveCount, told.size(), levelOf.size(), levels.size(), allTurns, most, live,
            failings.size()};
        return what < 0 || what > 10 ? -1 : all[what];
    }
}
