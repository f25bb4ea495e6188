import java.util.List;
import java.util.Random;

/** Random runs of calls, the seed being the number of the run: the class answers what the model answers. */
public final class ModelTest {
    private static final int RUNS = 6000;
    // The rest of the 512 calls is for the look at everything in the end.
    private static final int CALLS = 444;
    private static final int[] EDGES = {Integer.MIN_VALUE, -2, -1, 0, 1, 12, 100, Integer.MAX_VALUE};
    private static final String[] NAMES = {"begin", "lock", "put", "remove", "end", "row", "crash", "snapshot", "step",
            "waiting", "tick", "deliver", "alter", "flight", "packet", "apply", "stored", "view", "position",
            "progress"};

    private static final Due DUE = new Due();

    private final Random random;
    private final int[] weights = new int[NAMES.length];
    private final int run;
    private final int keys;
    private final ChangeFeed feed;
    private final Model model;
    private int begun = 0;

    private ModelTest(int run) {
        this.run = run;
        random = new Random(run);
        keys = random.nextInt(15) - 1;
        int chunk = random.nextInt(9) - 1;
        int timeout = random.nextInt(4) == 0 ? random.nextInt(24) : random.nextInt(4);
        int least = random.nextInt(3) == 0 ? Integer.MIN_VALUE : random.nextInt(80) - 20;
        feed = new ChangeFeed(keys, chunk, timeout, least);
        model = new Model(keys, chunk, timeout, least);
        mixed();
        if (run % 3 == 1) {
            busy();
        } else if (run % 3 == 2) {
            writing();
        }
    }

    /** All calls, but few crashes: else the pipeline is back at the log's begin all the time, and nothing is stored. */
    private void mixed() {
        for (int i = 0; i < NAMES.length; i++) {
            weights[i] = 1 + random.nextInt(8);
        }
        weigh("crash", random.nextInt(3));
        weigh("deliver", 12 + random.nextInt(20));
        weigh("apply", 12);
        weigh("step", 8);
    }

    /** Few looks, so that more of the log is written, read and stored. */
    private void busy() {
        for (String name : new String[] {"row", "waiting", "flight", "packet", "stored", "view", "position", "progress"}) {
            weigh(name, random.nextInt(2));
        }
        weigh("crash", random.nextInt(2));
        weigh("put", 24);
        weigh("end", 12);
        weigh("begin", 10);
        weigh("lock", 1);
        weigh("alter", random.nextInt(3));
    }

    /** The log becomes full. */
    private void writing() {
        busy();
        weigh("put", 150);
        weigh("begin", 25);
        weigh("end", 25);
    }

    private void weigh(String name, int weight) {
        for (int i = 0; i < NAMES.length; i++) {
            if (NAMES[i].equals(name)) {
                weights[i] = weight;
            }
        }
    }

    public static void main(String[] args) {
        int furthest = 0;
        int progress = 0;
        int full = 0;
        for (int run = 0; run < RUNS; run++) {
            ModelTest test = new ModelTest(run);
            for (int call = 0; call < CALLS; call++) {
                test.callOne();
            }
            full += test.model.entries() > 155 ? 1 : 0;
            furthest = Math.max(furthest, test.model.position());
            progress += test.model.progress();
            test.lookAtAll();
        }
        DUE.is("many runs fill the log", full > RUNS / 20, true);
        DUE.is("some store far into the log", furthest > 70, true);
        DUE.is("snapshots are stored", progress > RUNS, true);
        DUE.finish();
    }

    private void callOne() {
        int which = chosen();
        int n = number();
        int k = near(keys);
        int i = random.nextInt(3) > 0 ? 0 : near(8);
        boolean flag = random.nextInt(4) > 0;
        int g = near(4);
        int amount = random.nextInt(6) == 0 ? random.nextInt() : random.nextInt(120) - 30;
        int count = random.nextInt(8) == 0 ? near(102) : random.nextInt(6);
        int word = near(4);
        int p = near(8);
        int party = random.nextInt(3) == 0 ? near(3) : random.nextInt(3);
        String call = "run " + run + " " + NAMES[which] + " n=" + n + " k=" + k + " i=" + i + " g=" + g + " amount="
                + amount + " count=" + count + " word=" + word + " p=" + p + " party=" + party + " flag=" + flag;
        switch (NAMES[which]) {
            case "begin" -> {
                int number = model.begin();
                begun += number >= 0 ? 1 : 0;
                DUE.is(call, feed.begin(), number);
            }
            case "lock" -> DUE.is(call, feed.lock(n, k), model.lock(n, k));
            case "put" -> DUE.is(call, feed.put(n, k, g, amount), model.put(n, k, g, amount));
            case "remove" -> DUE.is(call, feed.remove(n, k), model.remove(n, k));
            case "end" -> DUE.is(call, feed.end(n, flag), model.end(n, flag));
            case "row" -> DUE.is(call, feed.row(flag ? n : -1, k), model.row(flag ? n : -1, k));
            case "crash" -> DUE.is(call, feed.crash(party), model.crash(party));
            case "snapshot" -> DUE.is(call, feed.snapshot(), model.snapshot());
            case "step" -> DUE.is(call, feed.step(count), model.step(count));
            case "waiting" -> DUE.is(call, feed.waiting(), model.waiting());
            case "tick" -> DUE.is(call, feed.tick(count), model.tick(count));
            case "deliver" -> DUE.is(call, feed.deliver(i), model.deliver(i));
            case "alter" -> DUE.is(call, feed.alter(i, flag), model.alter(i, flag));
            case "flight" -> DUE.is(call, feed.flight(), model.flight());
            case "packet" -> DUE.is(call, feed.packet(p, word), model.packet(p, word));
            case "apply" -> DUE.is(call, feed.apply(), model.apply());
            case "stored" -> DUE.is(call, feed.stored(k), model.stored(k));
            case "view" -> DUE.is(call, feed.view(g, flag), model.view(g, flag));
            case "position" -> DUE.is(call, feed.position(), model.position());
            default -> DUE.is(call, feed.progress(), model.progress());
        }
    }

    private void lookAtAll() {
        for (int k = 0; k < 12; k++) {
            DUE.is("run " + run + " row of " + k, feed.row(-1, k), model.row(-1, k));
            DUE.is("run " + run + " stored " + k, feed.stored(k), model.stored(k));
        }
        for (int g = 0; g < 4; g++) {
            DUE.is("run " + run + " count of " + g, feed.view(g, false), model.view(g, false));
            DUE.is("run " + run + " sum of " + g, feed.view(g, true), model.view(g, true));
        }
        for (int i = 0; i < 32; i++) {
            DUE.is("run " + run + " packet " + i / 4, feed.packet(i / 4, i % 4), model.packet(i / 4, i % 4));
        }
        DUE.is("run " + run + " waiting", feed.waiting(), model.waiting());
        DUE.is("run " + run + " flight", feed.flight(), model.flight());
        DUE.is("run " + run + " position", feed.position(), model.position());
        DUE.is("run " + run + " progress", feed.progress(), model.progress());
    }

    private int chosen() {
        int all = 0;
        for (int weight : weights) {
            all += weight;
        }
        int left = random.nextInt(all);
        int which = 0;
        while (left >= weights[which]) {
            left -= weights[which];
            which++;
        }
        return which;
    }

    /** Mostly an open transaction. */
    private int number() {
        List<Integer> open = model.openNumbers();
        boolean any = open.isEmpty() || random.nextInt(10) == 0;
        return any ? near(begun + 1) : open.get(random.nextInt(open.size()));
    }

    /** Mostly within 0 .. most - 1, at times just outside, at times far off. */
    private int near(int most) {
        if (random.nextInt(40) == 0) {
            return EDGES[random.nextInt(EDGES.length)];
        }
        int outside = random.nextInt(8) == 0 ? 1 : 0;
        return random.nextInt(Math.max(most, 1) + outside);
    }
}
