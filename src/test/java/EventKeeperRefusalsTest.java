import java.util.ArrayList;
import java.util.List;
import java.util.function.Consumer;
import java.util.function.Supplier;

/** The end of Terms 4: which of several exceptions is thrown, and that a call that throws changes nothing. */
public final class EventKeeperRefusalsTest extends Given {
    private static final String ARGUMENT = "IllegalArgumentException";
    private static final String STATE = "IllegalStateException";
    private static final String INDEX = "IndexOutOfBoundsException";

    private record Refusal(String call, String exception, Consumer<EventKeeper> it) {}

    /** A way to bring to light what an object holds: some calls, and then a look at all answers. */
    private record View(String name, Consumer<EventKeeper> calls) {}

    private static final List<View> VIEWS = List.of(
            new View("at once", x -> { }),
            new View("after a crash", EventKeeper::crash),
            new View("after one more event of each kind", EventKeeperRefusalsTest::oneOfEachKind),
            new View("after a crash and one more event of each kind", x -> {
                x.crash();
                oneOfEachKind(x);
            }),
            new View("after a sync and a crash", x -> {
                x.sync();
                x.crash();
            }));

    public static void main(String[] args) {
        c.test(EventKeeperRefusalsTest::appendArgumentBeforeState);
        c.test(EventKeeperRefusalsTest::appendArgumentBeforeIndex);
        c.test(EventKeeperRefusalsTest::appendStateBeforeIndex);
        c.test(EventKeeperRefusalsTest::cellArgumentBeforeIndex);
        c.test(EventKeeperRefusalsTest::acknowledgeArgumentBeforeIndex);
        c.test(EventKeeperRefusalsTest::eventArgumentBeforeIndex);
        c.test(EventKeeperRefusalsTest::findArgumentBeforeIndex);
        c.test(EventKeeperRefusalsTest::refusedCallsChangeNothing);
        c.test(EventKeeperRefusalsTest::refusedCallsChangeNoFilter);
        c.test(EventKeeperRefusalsTest::refusedCallsOfAFullLogChangeNothing);
        c.end();
    }

    private static void first(String call) {
        c.sentence("Terms 4", "Of several exceptions of a call the one named first in its heading is thrown", call);
    }

    private static void appendArgumentBeforeState() {
        first("append, IllegalArgumentException before IllegalStateException");
        EventKeeper x = filled(2);
        c.refusesArgument("append(16, 9, 0, 0)", () -> x.append(16, 9, 0, 0));
        c.refusesArgument("append(-1, 9, 0, 0)", () -> x.append(-1, 9, 0, 0));
        c.refusesArgument("append(0, 9, 8, 0)", () -> x.append(0, 9, 8, 0));
        c.refusesArgument("append(0, 9, -1, 0)", () -> x.append(0, 9, -1, 0));
        c.refusesArgument("append(0, -2, 0, 0)", () -> x.append(0, -2, 0, 0));
    }

    private static void appendArgumentBeforeIndex() {
        first("append, IllegalArgumentException before IndexOutOfBoundsException");
        EventKeeper x = filled(500);
        c.refusesArgument("append(16, -1, 0, 0)", () -> x.append(16, -1, 0, 0));
        c.refusesArgument("append(-1, -1, 0, 0)", () -> x.append(-1, -1, 0, 0));
        c.refusesArgument("append(0, -2, 0, 0)", () -> x.append(0, -2, 0, 0));
        c.refusesArgument("append(0, 500, 8, 0)", () -> x.append(0, 500, 8, 0));
        c.refusesArgument("append(0, -1, -1, 0)", () -> x.append(0, -1, -1, 0));
        c.refusesArgument("append(0, 9, 8, 0), all three", () -> x.append(0, 9, 8, 0));
        c.refusesArgument("append(16, 9, 0, 0), all three", () -> x.append(16, 9, 0, 0));
    }

    private static void appendStateBeforeIndex() {
        first("append, IllegalStateException before IndexOutOfBoundsException");
        EventKeeper x = filled(500);
        c.refusesState("append(0, 0, 0, 0)", () -> x.append(0, 0, 0, 0));
        c.refusesState("append(0, 499, 0, 0)", () -> x.append(0, 499, 0, 0));
        c.refusesState("append(0, 501, 0, 0)", () -> x.append(0, 501, 0, 0));
        c.refusesState("append(1, 1, 0, 0)", () -> x.append(1, 1, 0, 0));
    }

    private static void cellArgumentBeforeIndex() {
        first("cell");
        EventKeeper x = filled(2);
        for (int p : OUTSIDE_8) {
            c.refusesArgument("cell(" + p + ", 16)", () -> x.cell(p, 16));
            c.refusesArgument("cell(" + p + ", -1)", () -> x.cell(p, -1));
        }
    }

    private static void acknowledgeArgumentBeforeIndex() {
        first("acknowledge");
        EventKeeper x = filled(2);
        for (int s : OUTSIDE_8) {
            c.refusesArgument("acknowledge(" + s + ", 2)", () -> x.acknowledge(s, 2));
            c.refusesArgument("acknowledge(" + s + ", -1)", () -> x.acknowledge(s, -1));
        }
        c.refusesArgument("acknowledge(8, 0) of no events", () -> new EventKeeper().acknowledge(8, 0));
    }

    private static void eventArgumentBeforeIndex() {
        first("event");
        EventKeeper x = filled(2);
        for (int what : new int[] {-1, 5, Integer.MIN_VALUE, Integer.MAX_VALUE}) {
            c.refusesArgument("event(2, " + what + ")", () -> x.event(2, what));
            c.refusesArgument("event(-1, " + what + ")", () -> x.event(-1, what));
        }
        c.refusesArgument("event(0, 5) of no events", () -> new EventKeeper().event(0, 5));
    }

    private static void findArgumentBeforeIndex() {
        first("find");
        EventKeeper x = filled(2);
        for (int s : OUTSIDE_16) {
            c.refusesArgument("find(" + s + ", 2)", () -> x.find(s, 2));
            c.refusesArgument("find(" + s + ", -1)", () -> x.find(s, -1));
        }
    }

    private static void oneOfEachKind(EventKeeper x) {
        for (int kind = 0; kind < 8; kind++) {
            if (x.count(0, 0) < 500) {
                x.append(15 - kind, -1, kind, 40 + kind);
            }
        }
        for (int p = 0; p < 8; p++) {
            x.advance(p, 1000);
        }
    }

    private static final int BUSY_EVENTS = 9;

    /** Nothing is as in a new object: what is saved, safe and durable differs from what there is now. */
    private static EventKeeper busy() {
        EventKeeper x = new EventKeeper();
        for (int kind = 0; kind < 7; kind++) {
            x.rule(0, kind, kind, BY_STREAM);
        }
        x.rule(1, 0, EMIT, CELL_0);
        x.rule(7, 1, ADD, BY_VALUE);
        x.filter(0, 0, 255);
        x.filter(7, -1, 0b1010);
        for (int i = 0; i < 5; i++) {
            x.append(i % 3, -1, i % 2, 3 * i + 1);
        }
        x.advance(0, 2);
        x.advance(1, 3);
        x.acknowledge(0, 1);
        x.acknowledge(7, 2);
        x.save(0);
        x.save(7);
        x.sync();
        x.save(1);
        x.append(2, -1, 0, 9);
        x.advance(0, 2);
        x.advance(1, 4);
        x.advance(7, 4);
        x.append(0, -1, 6, 5);
        x.acknowledge(0, 4);
        x.acknowledge(3, 3);
        return x;
    }

    /** Full, by few calls: all but projection 0 emit whatever they find, and double the log. */
    private static EventKeeper busyAndFull() {
        EventKeeper x = new EventKeeper();
        x.rule(0, 0, EMIT, BY_STREAM);
        for (int i = 0; i < 4; i++) {
            x.append(2, -1, 0, i);
        }
        x.sync();
        for (int i = 0; i < 4; i++) {
            x.append(1, -1, 7, i);
        }
        for (int p = 1; p < 8; p++) {
            x.rule(p, 0, EMIT, CELL_0);
            x.rule(p, 7, EMIT, CELL_0);
            x.advance(p, 1000);
        }
        x.acknowledge(2, 400);
        return x;
    }

    /** What can be seen of an object; of a long log the first and the last events. */
    private static String seen(EventKeeper x) {
        StringBuilder b = new StringBuilder();
        int events = x.count(0, 0);
        b.append(events).append(" events, ").append(x.count(1, 0)).append(" durable, streams");
        for (int s = 0; s < 16; s++) {
            b.append(' ').append(x.count(2, s));
        }
        for (int i = 0; i < 8; i++) {
            b.append(", projection ").append(x.count(3, i)).append(" emitted ").append(x.count(5, i));
            for (int k = 0; k < 16; k++) {
                b.append(' ').append(x.cell(i, k));
            }
            b.append(", subscription ").append(x.count(4, i)).append(" next ").append(x.next(i));
        }
        for (int place = 0; place < events; place++) {
            if (place < 12 || place >= events - 8) {
                b.append(", event ").append(x.value(place));
                for (int what = 0; what < 5; what++) {
                    b.append(' ').append(x.event(place, what));
                }
            }
        }
        return b.toString();
    }

    /** All that a subscription is still to get. */
    private static String followed(EventKeeper x) {
        StringBuilder b = new StringBuilder();
        for (int s = 0; s < 8; s++) {
            b.append(", subscription");
            for (int place = x.next(s); place >= 0; place = x.next(s)) {
                b.append(' ').append(place);
                x.acknowledge(s, place);
            }
        }
        return b.toString();
    }

    private static void changesNothing(Supplier<EventKeeper> begin, Refusal refusal) {
        for (View view : VIEWS) {
            EventKeeper untouched = begin.get();
            EventKeeper x = begin.get();
            c.compare(refusal.call(), refusal.exception(), Checks.outcome(Checks.asCall(() -> refusal.it().accept(x))));
            view.calls().accept(untouched);
            view.calls().accept(x);
            c.compare("the object " + view.name() + " behind " + refusal.call(), seen(untouched), seen(x));
        }
    }

    private static List<Refusal> refusals() {
        List<Refusal> all = new ArrayList<>();
        all.add(new Refusal("append(0, -2, 0, 0)", ARGUMENT, x -> x.append(0, -2, 0, 0)));
        all.add(new Refusal("append(0, 1, 0, 0)", STATE, x -> x.append(0, 1, 0, 0)));
        all.add(new Refusal("append(0, 9, 0, 0)", STATE, x -> x.append(0, 9, 0, 0)));
        for (int s : new int[] {-1, 16}) {
            all.add(new Refusal("append(" + s + ", -1, 0, 0)", ARGUMENT, x -> x.append(s, -1, 0, 0)));
            all.add(new Refusal("find(" + s + ", 0)", ARGUMENT, x -> x.find(s, 0)));
            all.add(new Refusal("count(2, " + s + ")", ARGUMENT, x -> x.count(2, s)));
            all.add(new Refusal("cell(0, " + s + ")", INDEX, x -> x.cell(0, s)));
        }
        for (int i : new int[] {-1, 8}) {
            all.add(new Refusal("append(0, -1, " + i + ", 0)", ARGUMENT, x -> x.append(0, -1, i, 0)));
            all.add(new Refusal("rule(" + i + ", 0, 3, 0)", ARGUMENT, x -> x.rule(i, 0, 3, 0)));
            all.add(new Refusal("rule(0, " + i + ", 3, 0)", ARGUMENT, x -> x.rule(0, i, 3, 0)));
            all.add(new Refusal("advance(" + i + ", 5)", ARGUMENT, x -> x.advance(i, 5)));
            all.add(new Refusal("save(" + i + ")", ARGUMENT, x -> x.save(i)));
            all.add(new Refusal("cell(" + i + ", 0)", ARGUMENT, x -> x.cell(i, 0)));
            all.add(new Refusal("filter(" + i + ", -1, 255)", ARGUMENT, x -> x.filter(i, -1, 255)));
            all.add(new Refusal("next(" + i + ")", ARGUMENT, x -> x.next(i)));
            all.add(new Refusal("acknowledge(" + i + ", 4)", ARGUMENT, x -> x.acknowledge(i, 4)));
            all.add(new Refusal("event(0, " + i + ")", ARGUMENT, x -> x.event(0, i)));
            all.add(new Refusal("count(" + i + ", 0)", ARGUMENT, x -> x.count(i, 0)));
            all.add(new Refusal("count(3, " + i + ")", ARGUMENT, x -> x.count(3, i)));
            all.add(new Refusal("count(4, " + i + ")", ARGUMENT, x -> x.count(4, i)));
            all.add(new Refusal("count(5, " + i + ")", ARGUMENT, x -> x.count(5, i)));
        }
        for (int what : new int[] {-1, 7}) {
            all.add(new Refusal("rule(0, 1, " + what + ", 0)", ARGUMENT, x -> x.rule(0, 1, what, 0)));
        }
        for (int cell : new int[] {-1, 3}) {
            all.add(new Refusal("rule(0, 1, 3, " + cell + ")", ARGUMENT, x -> x.rule(0, 1, 3, cell)));
        }
        for (int n : new int[] {-1, 1001}) {
            all.add(new Refusal("advance(0, " + n + ")", ARGUMENT, x -> x.advance(0, n)));
            all.add(new Refusal("advance(1, " + n + ")", ARGUMENT, x -> x.advance(1, n)));
        }
        for (int s : new int[] {-2, 16}) {
            all.add(new Refusal("filter(0, " + s + ", 255)", ARGUMENT, x -> x.filter(0, s, 255)));
        }
        for (int kinds : new int[] {-1, 256}) {
            all.add(new Refusal("filter(0, -1, " + kinds + ")", ARGUMENT, x -> x.filter(0, -1, kinds)));
        }
        for (int place : new int[] {-1, BUSY_EVENTS, 500}) {
            all.add(new Refusal("acknowledge(0, " + place + ")", INDEX, x -> x.acknowledge(0, place)));
            all.add(new Refusal("event(" + place + ", 0)", INDEX, x -> x.event(place, 0)));
            all.add(new Refusal("value(" + place + ")", INDEX, x -> x.value(place)));
            all.add(new Refusal("find(0, " + place + ")", INDEX, x -> x.find(0, place)));
        }
        return all;
    }

    private static void refusedCallsChangeNothing() {
        c.sentence("Terms 4", "a call that throws changes nothing");
        c.answers("the log that all begin with", BUSY_EVENTS, () -> busy().count(0, 0));
        for (Refusal refusal : refusals()) {
            changesNothing(EventKeeperRefusalsTest::busy, refusal);
        }
    }

    private static void refusedCallsChangeNoFilter() {
        c.sentence("Terms 4", "a call that throws changes nothing", "no FILTER");
        for (Refusal refusal : refusals()) {
            EventKeeper x = busy();
            Checks.outcome(Checks.asCall(() -> refusal.it().accept(x)));
            c.compare("what is to be got behind " + refusal.call(), followed(busy()), followed(x));
        }
    }

    private static void refusedCallsOfAFullLogChangeNothing() {
        c.sentence("Terms 4", "a call that throws changes nothing", "THE LOG is full");
        c.answers("the log that all begin with", 500, () -> busyAndFull().count(0, 0));
        List<Refusal> all = List.of(
                new Refusal("append(0, -1, 0, 0)", INDEX, x -> x.append(0, -1, 0, 0)),
                new Refusal("append(2, -1, 7, 9)", INDEX, x -> x.append(2, -1, 7, 9)),
                new Refusal("append(2, 499, 0, 0)", STATE, x -> x.append(2, 499, 0, 0)),
                new Refusal("append(2, -2, 0, 0)", ARGUMENT, x -> x.append(2, -2, 0, 0)),
                new Refusal("append(2, -1, 8, 0)", ARGUMENT, x -> x.append(2, -1, 8, 0)),
                new Refusal("append(16, -1, 0, 0)", ARGUMENT, x -> x.append(16, -1, 0, 0)),
                new Refusal("acknowledge(0, 500)", INDEX, x -> x.acknowledge(0, 500)),
                new Refusal("value(500)", INDEX, x -> x.value(500)),
                new Refusal("event(500, 0)", INDEX, x -> x.event(500, 0)));
        for (Refusal refusal : all) {
            changesNothing(EventKeeperRefusalsTest::busyAndFull, refusal);
        }
    }
}
