import java.util.Random;
import java.util.function.IntSupplier;

/** All promises: runs of up to 512 calls by fixed seeds, each answer held against the model's. */
public final class ModelTest {
    private static final Check CHECK = new Check("ModelTest");
    private static final int OBJECTS = 400;
    private static final int CALLS = 512;

    private final Random random;
    private final String name;
    private final ExploreShares shares;
    private final Model model;
    private int calls;

    private ModelTest(int seed) {
        random = new Random(seed);
        int workers = random.nextInt(8) == 0 ? random.nextInt() : 1 + random.nextInt(16);
        int queue = random.nextInt(8) == 0 ? random.nextInt() : 1 + random.nextInt(8);
        name = "object " + seed + " (" + workers + ", " + queue + ")";
        shares = new ExploreShares(workers, queue);
        model = new Model(workers, queue);
    }

    public static void main(String[] args) {
        for (int seed = 0; seed < OBJECTS; seed++) {
            ModelTest test = new ModelTest(seed);
            test.build();
            while (test.calls < CALLS) {
                test.anyCall();
            }
        }
        CHECK.end();
    }

    private void same(String call, IntSupplier want, IntSupplier got) {
        calls++;
        CHECK.due(name + " call " + calls + " " + call, Check.answer(want), Check.answer(got));
    }

    private void build() {
        int states = 1 + random.nextInt(random.nextInt(4) == 0 ? 200 : 40);
        int moves = random.nextInt(Math.min(states * 3, 250) + 1);
        int reach = random.nextBoolean() ? states : 1 + random.nextInt(6);
        boolean hub = random.nextInt(3) == 0;
        for (int s = 0; s < states; s++) {
            same("state()", model::state, shares::state);
        }
        for (int m = 0; m < moves; m++) {
            int from = hub && random.nextBoolean() ? 0 : random.nextInt(states);
            int to = (from + random.nextInt(reach) + random.nextInt(2)) % states;
            same("move(" + from + ", " + to + ")", () -> model.move(from, to), () -> shares.move(from, to));
        }
        for (int f = random.nextInt(25); f > 0; f--) {
            fail();
        }
        run();
    }

    /** Mostly a number that is there, at times one that is just outside or far away. */
    private int number(int size) {
        int kind = random.nextInt(20);
        if (kind == 0) {
            return random.nextBoolean() ? -1 : size;
        }
        if (kind == 1) {
            return random.nextInt();
        }
        return size <= 0 ? 0 : random.nextInt(size);
    }

    private void fail() {
        int worker = number(model.count(0));
        int level = number(random.nextInt(4) == 0 ? 200 : 4);
        int n = number(random.nextInt(6) == 0 ? 1001 : 8);
        same("fail(" + worker + ", " + level + ", " + n + ")", () -> model.fail(worker, level, n),
                () -> shares.fail(worker, level, n));
    }

    private void run() {
        int seed = random.nextBoolean() ? random.nextInt(100) : random.nextInt();
        same("run(" + seed + ")", () -> model.run(seed), () -> shares.run(seed));
    }

    private void anyCall() {
        int states = model.count(2);
        int kind = random.nextInt(60);
        if (kind == 0) {
            same("state()", model::state, shares::state);
        } else if (kind == 1) {
            int from = number(states);
            int to = number(states);
            same("move(" + from + ", " + to + ")", () -> model.move(from, to), () -> shares.move(from, to));
        } else if (kind == 2) {
            fail();
        } else if (kind < 8) {
            run();
        } else if (kind < 36) {
            askOfState(kind % 4, number(states));
        } else {
            askOfRun(kind % 4);
        }
    }

    private void askOfState(int kind, int s) {
        if (kind == 0) {
            same("level(" + s + ")", () -> model.level(s), () -> shares.level(s));
        } else if (kind == 1) {
            same("owner(" + s + ")", () -> model.owner(s), () -> shares.owner(s));
        } else if (kind == 2) {
            same("times(" + s + ")", () -> model.times(s), () -> shares.times(s));
        } else {
            int k = number(model.count(6) + 1);
            same("way(" + s + ", " + k + ")", () -> model.way(s, k), () -> shares.way(s, k));
        }
    }

    private void askOfRun(int kind) {
        if (kind == 0) {
            int worker = number(model.count(0));
            int what = number(5);
            same("worker(" + worker + ", " + what + ")", () -> model.worker(worker, what),
                    () -> shares.worker(worker, what));
        } else if (kind == 1) {
            int k = number(model.count(10));
            int what = number(3);
            same("failed(" + k + ", " + what + ")", () -> model.failed(k, what), () -> shares.failed(k, what));
        } else if (kind == 2) {
            int k = number(model.count(6));
            same("size(" + k + ")", () -> model.size(k), () -> shares.size(k));
        } else {
            int what = number(11);
            same("count(" + what + ")", () -> model.count(what), () -> shares.count(what));
        }
    }
}
