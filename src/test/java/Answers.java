import java.util.StringJoiner;
import java.util.function.IntSupplier;

/** All that can be asked of an object, in one text: for what must stay as it is, and for what must be gone. */
final class Answers {
    private final StringJoiner text = new StringJoiner(" ");

    private Answers() {
    }

    /** About 20 calls, and some five more for each state, worker, level and failing. */
    static String of(ExploreShares x) {
        Answers answers = new Answers();
        for (int what = 0; what <= 10; what++) {
            int asked = what;
            answers.add("count", () -> x.count(asked));
        }
        int states = x.count(2);
        for (int s = 0; s < states; s++) {
            answers.addState(x, s);
        }
        int workers = x.count(0);
        for (int w = 0; w < workers; w++) {
            answers.addWorker(x, w);
        }
        int failings = x.count(10);
        for (int k = 0; k <= failings; k++) {
            answers.addFailing(x, k);
        }
        int levels = x.count(6);
        for (int k = 0; k <= levels; k++) {
            int level = k;
            answers.add("size", () -> x.size(level));
        }
        return answers.text.toString();
    }

    private void addState(ExploreShares x, int s) {
        add("level", () -> x.level(s));
        add("owner", () -> x.owner(s));
        add("times", () -> x.times(s));
        add("way", () -> x.way(s, 0));
        add("way", () -> x.way(s, 1));
    }

    private void addWorker(ExploreShares x, int w) {
        for (int what = 0; what <= 4; what++) {
            int asked = what;
            add("worker", () -> x.worker(w, asked));
        }
    }

    private void addFailing(ExploreShares x, int k) {
        for (int what = 0; what <= 2; what++) {
            int asked = what;
            add("failed", () -> x.failed(k, asked));
        }
    }

    private void add(String name, IntSupplier call) {
        text.add(name + ":" + Check.answer(call));
    }
}
