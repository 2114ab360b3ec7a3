import java.util.ArrayList;
import java.util.List;

/**
 * The document once more, as slow and literal as can be: nothing is kept that can be worked out from
 * the list of events, and what a crash brings back is a whole copy. Answers are texts: a number, or
 * the name of the exception.
 */
final class Model {
    private static final String ARGUMENT = "IllegalArgumentException";
    private static final String STATE = "IllegalStateException";
    private static final String INDEX = "IndexOutOfBoundsException";

    private record Event(int stream, int kind, long value, int causeProjection, int causePlace) {}

    private record Saved(long[] cells, int position, int events) {}

    private static final class Projection {
        final int[] what = new int[8];
        final int[] where = new int[8];
        long[] cells = new long[16];
        int position = 0;
        Saved saved = null;
    }

    private static final class Subscription {
        int stream = -1;
        int kinds = 255;
        int position = 0;
        Integer safe = null;
    }

    private List<Event> log = new ArrayList<>();
    private List<Event> durable = new ArrayList<>();
    private final Projection[] projections = new Projection[8];
    private final Subscription[] subscriptions = new Subscription[8];
    /** How often the rarer turns were taken, so that a test can tell that it has met them. */
    int stays = 0;
    int suppressed = 0;
    int emittedAgain = 0;
    int restored = 0;
    int givenUp = 0;
    private final List<Long> lostCauses = new ArrayList<>();

    Model() {
        for (int i = 0; i < 8; i++) {
            projections[i] = new Projection();
            subscriptions[i] = new Subscription();
        }
    }

    private static boolean in(int x, int low, int high) {
        return low <= x && x <= high;
    }

    private long eventsOf(int stream, int before) {
        return log.subList(0, before).stream().filter(e -> e.stream() == stream).count();
    }

    String append(int stream, int expected, int kind, long v) {
        if (!in(stream, 0, 15) || expected < -1 || !in(kind, 0, 7)) {
            return ARGUMENT;
        }
        if (expected != -1 && expected != eventsOf(stream, log.size())) {
            return STATE;
        }
        if (log.size() == 500) {
            return INDEX;
        }
        log.add(new Event(stream, kind, v, -1, -1));
        return "" + (log.size() - 1);
    }

    String rule(int projection, int kind, int what, int cell) {
        if (!in(projection, 0, 7) || !in(kind, 0, 7) || !in(what, 0, 6) || !in(cell, 0, 2)) {
            return ARGUMENT;
        }
        Projection p = projections[projection];
        p.what[kind] = what;
        p.where[kind] = cell;
        p.cells = new long[16];
        p.position = 0;
        p.saved = null;
        return "0";
    }

    String advance(int projection, int n) {
        if (!in(projection, 0, 7) || !in(n, 0, 1000)) {
            return ARGUMENT;
        }
        int taken = 0;
        while (taken < n && projections[projection].position < log.size() && take(projection)) {
            taken++;
        }
        return "" + taken;
    }

    private boolean take(int projection) {
        Projection p = projections[projection];
        Event e = log.get(p.position);
        int low = (int) Math.floorMod(e.value(), 16L);
        int k = p.where[e.kind()] == 0 ? e.stream() : p.where[e.kind()] == 1 ? low : 0;
        long[] after = p.cells.clone();
        switch (p.what[e.kind()]) {
            case 1 -> after[k] += e.value();
            case 2 -> after[k] = e.value();
            case 3 -> after[k] += 1;
            case 4 -> after[k] = after[k] > e.value() ? after[k] : e.value();
            case 5 -> after[k] = after[k] < e.value() ? after[k] : e.value();
            case 6 -> after[k] += 1;
            default -> { }
        }
        if (p.what[e.kind()] == 6 && after[k] % 2 == 0 && !emit(projection, low, after[k])) {
            return false;
        }
        p.cells = after;
        p.position++;
        return true;
    }

    private boolean emit(int projection, int stream, long value) {
        int place = projections[projection].position;
        if (log.stream().anyMatch(e -> e.causeProjection() == projection && e.causePlace() == place)) {
            suppressed++;
            return true;
        }
        if (log.size() == 500) {
            stays++;
            return false;
        }
        if (lostCauses.contains(projection * 1000L + place)) {
            emittedAgain++;
        }
        log.add(new Event(stream, 7, value, projection, place));
        return true;
    }

    String save(int projection) {
        if (!in(projection, 0, 7)) {
            return ARGUMENT;
        }
        Projection p = projections[projection];
        p.saved = new Saved(p.cells.clone(), p.position, log.size());
        return "" + p.position;
    }

    String cell(int projection, int k) {
        if (!in(projection, 0, 7)) {
            return ARGUMENT;
        }
        return in(k, 0, 15) ? "" + projections[projection].cells[k] : INDEX;
    }

    String filter(int subscription, int stream, int kinds) {
        if (!in(subscription, 0, 7) || !in(stream, -1, 15) || !in(kinds, 0, 255)) {
            return ARGUMENT;
        }
        Subscription s = new Subscription();
        s.stream = stream;
        s.kinds = kinds;
        subscriptions[subscription] = s;
        return "0";
    }

    String next(int subscription) {
        if (!in(subscription, 0, 7)) {
            return ARGUMENT;
        }
        Subscription s = subscriptions[subscription];
        for (int place = s.position; place < log.size(); place++) {
            Event e = log.get(place);
            if ((s.stream == -1 || s.stream == e.stream()) && (s.kinds >> e.kind()) % 2 == 1) {
                return "" + place;
            }
        }
        return "-1";
    }

    String acknowledge(int subscription, int place) {
        if (!in(subscription, 0, 7)) {
            return ARGUMENT;
        }
        if (!in(place, 0, log.size() - 1)) {
            return INDEX;
        }
        Subscription s = subscriptions[subscription];
        if (place >= s.position) {
            s.position = place + 1;
        }
        return "" + s.position;
    }

    String sync() {
        durable = new ArrayList<>(log);
        for (Subscription s : subscriptions) {
            s.safe = s.position;
        }
        return "" + log.size();
    }

    String crash() {
        for (Event e : log.subList(durable.size(), log.size())) {
            lostCauses.add(e.causeProjection() * 1000L + e.causePlace());
        }
        log = new ArrayList<>(durable);
        for (Projection p : projections) {
            recover(p);
        }
        for (Subscription s : subscriptions) {
            s.position = s.safe == null ? 0 : s.safe > log.size() ? log.size() : s.safe;
        }
        return "" + log.size();
    }

    private void recover(Projection p) {
        if (p.saved != null && p.saved.events() <= log.size()) {
            restored++;
            p.cells = p.saved.cells().clone();
            p.position = p.saved.position();
        } else {
            givenUp += p.saved == null ? 0 : 1;
            p.cells = new long[16];
            p.position = 0;
            p.saved = null;
        }
    }

    String event(int place, int what) {
        if (!in(what, 0, 4)) {
            return ARGUMENT;
        }
        if (!in(place, 0, log.size() - 1)) {
            return INDEX;
        }
        Event e = log.get(place);
        long[] row = {e.stream(), eventsOf(e.stream(), place), e.kind(), e.causeProjection(), e.causePlace()};
        return "" + row[what];
    }

    String value(int place) {
        return in(place, 0, log.size() - 1) ? "" + log.get(place).value() : INDEX;
    }

    String find(int stream, int version) {
        if (!in(stream, 0, 15)) {
            return ARGUMENT;
        }
        for (int place = 0; place < log.size(); place++) {
            if (log.get(place).stream() == stream && eventsOf(stream, place) == version) {
                return "" + place;
            }
        }
        return INDEX;
    }

    String count(int what, int k) {
        if (!in(what, 0, 5) || what >= 2 && !in(k, 0, what == 2 ? 15 : 7)) {
            return ARGUMENT;
        }
        return "" + switch (what) {
            case 0 -> log.size();
            case 1 -> durable.size();
            case 2 -> eventsOf(k, log.size());
            case 3 -> projections[k].position;
            case 4 -> subscriptions[k].position;
            default -> log.stream().filter(e -> e.causeProjection() == k).count();
        };
    }

    int size() {
        return log.size();
    }
}
