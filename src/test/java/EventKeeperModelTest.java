import java.util.Random;

/** Runs of 512 calls, drawn from fixed seeds, against the model. */
public final class EventKeeperModelTest {
    private static final int RUNS = 600;
    private static final int CALLS = 512;
    private static final int METHODS = 14;
    private static final long[] EDGES = {0, -1, 1, 15, 16, -16, Long.MAX_VALUE, Long.MIN_VALUE, 1L << 32};

    private final Random random;
    private final Checks checks;
    private final EventKeeper keeper = new EventKeeper();
    private final Model model = new Model();
    /** Each run likes other calls, so that some fill the log and others crash all the time. */
    private final int[] weights = new int[METHODS];
    private int total = 0;
    private final int emitShare;

    private EventKeeperModelTest(int seed, Checks itsChecks) {
        random = new Random(seed);
        checks = itsChecks;
        checks.sentence("seed", String.valueOf(seed));
        int[] usual = {40, 3, 25, 4, 8, 2, 8, 8, 2, 2, 8, 4, 6, 12};
        for (int i = 0; i < METHODS; i++) {
            weights[i] = 1 + random.nextInt(2 * usual[i]);
        }
        if (seed % 3 == 0) {
            weights[8] = 1;
            weights[9] = seed % 2;
            weights[0] = 150;
        }
        for (int w : weights) {
            total += w;
        }
        emitShare = random.nextInt(4);
    }

    public static void main(String[] args) {
        Checks checks = new Checks();
        int full = 0;
        int[] rare = new int[5];
        for (int seed = 0; seed < RUNS; seed++) {
            EventKeeperModelTest run = new EventKeeperModelTest(seed, checks);
            run.run();
            Model m = run.model;
            full += m.size() == 500 ? 1 : 0;
            int[] met = {m.stays, m.suppressed, m.emittedAgain, m.restored, m.givenUp};
            for (int i = 0; i < rare.length; i++) {
                rare[i] += met[i];
            }
        }
        System.out.println("full logs " + full + ", stays " + rare[0] + ", not emitted twice " + rare[1]
                + ", emitted again " + rare[2] + ", restored " + rare[3] + ", given up " + rare[4]);
        checks.sentence("the runs", "meet every rare turn");
        checks.compare("meet every rare turn", "true",
                "" + (full > 0 && rare[0] > 0 && rare[1] > 0 && rare[2] > 0 && rare[3] > 0 && rare[4] > 0));
        checks.end();
    }

    private void run() {
        for (int i = 0; i < 10; i++) {
            call(1);
        }
        for (int i = 10; i < CALLS; i++) {
            call(drawn());
        }
    }

    private int drawn() {
        int at = random.nextInt(total);
        for (int i = 0; i < METHODS; i++) {
            at -= weights[i];
            if (at < 0) {
                return i;
            }
        }
        return 0;
    }

    /** Mostly low..high, now and then just outside or far outside. */
    private int around(int low, int high) {
        int way = random.nextInt(60);
        if (way == 0) {
            return low - 1;
        }
        if (way == 1) {
            return high + 1;
        }
        if (way == 2) {
            return random.nextInt();
        }
        return low + random.nextInt(Math.max(1, high - low + 1));
    }

    private int place() {
        return around(0, model.size() - 1);
    }

    private long value() {
        if (random.nextInt(4) == 0) {
            return EDGES[random.nextInt(EDGES.length)];
        }
        return random.nextBoolean() ? random.nextInt(64) - 32 : random.nextLong();
    }

    private int expected(int stream) {
        if (random.nextInt(3) > 0) {
            return -1;
        }
        if (stream < 0 || stream > 15 || random.nextInt(4) == 0) {
            return around(-1, 8);
        }
        return Integer.parseInt(model.count(2, stream));
    }

    private void due(String call, String want, Checks.Call it) {
        checks.compare(call, want, Checks.outcome(it));
    }

    private void call(int method) {
        switch (method) {
            case 0 -> append(around(0, 15), around(0, 7), value());
            case 1 -> rule(around(0, 7), around(0, 7), random.nextInt(4) < emitShare ? 6 : around(0, 6), around(0, 2));
            case 2 -> advance(around(0, 7), random.nextBoolean() ? around(0, 20) : around(0, 1000));
            case 3 -> save(around(0, 7));
            case 4 -> cell(around(0, 7), around(0, 15));
            case 5 -> filter(around(0, 7), around(-1, 15), around(0, 255));
            case 6 -> next(around(0, 7));
            case 7 -> acknowledge(around(0, 7), place());
            case 8 -> due("sync()", model.sync(), keeper::sync);
            case 9 -> due("crash()", model.crash(), keeper::crash);
            case 10 -> event(place(), around(0, 4));
            case 11 -> valueAt(place());
            case 12 -> find(around(0, 15), around(0, 1 + model.size() / 16));
            default -> count(around(0, 5), random.nextBoolean() ? around(0, 7) : around(0, 15));
        }
    }

    private void append(int stream, int kind, long v) {
        int expected = expected(stream);
        due("append(" + stream + ", " + expected + ", " + kind + ", " + v + ")",
                model.append(stream, expected, kind, v), () -> keeper.append(stream, expected, kind, v));
    }

    private void rule(int projection, int kind, int what, int cell) {
        due("rule(" + projection + ", " + kind + ", " + what + ", " + cell + ")",
                model.rule(projection, kind, what, cell),
                Checks.asCall(() -> keeper.rule(projection, kind, what, cell)));
    }

    private void advance(int projection, int n) {
        due("advance(" + projection + ", " + n + ")", model.advance(projection, n),
                () -> keeper.advance(projection, n));
    }

    private void save(int projection) {
        due("save(" + projection + ")", model.save(projection), () -> keeper.save(projection));
    }

    private void cell(int projection, int k) {
        due("cell(" + projection + ", " + k + ")", model.cell(projection, k), () -> keeper.cell(projection, k));
    }

    private void filter(int subscription, int stream, int kinds) {
        due("filter(" + subscription + ", " + stream + ", " + kinds + ")",
                model.filter(subscription, stream, kinds),
                Checks.asCall(() -> keeper.filter(subscription, stream, kinds)));
    }

    private void next(int subscription) {
        due("next(" + subscription + ")", model.next(subscription), () -> keeper.next(subscription));
    }

    private void acknowledge(int subscription, int place) {
        due("acknowledge(" + subscription + ", " + place + ")", model.acknowledge(subscription, place),
                () -> keeper.acknowledge(subscription, place));
    }

    private void event(int place, int what) {
        due("event(" + place + ", " + what + ")", model.event(place, what), () -> keeper.event(place, what));
    }

    private void valueAt(int place) {
        due("value(" + place + ")", model.value(place), () -> keeper.value(place));
    }

    private void find(int stream, int version) {
        due("find(" + stream + ", " + version + ")", model.find(stream, version),
                () -> keeper.find(stream, version));
    }

    private void count(int what, int k) {
        due("count(" + what + ", " + k + ")", model.count(what, k), () -> keeper.count(what, k));
    }
}
