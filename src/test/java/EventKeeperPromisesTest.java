/** Each promise of the document by hand: ordinary inputs, the edges it names, and wrong inputs. */
public final class EventKeeperPromisesTest {
    private static final int NOTHING = 0;
    private static final int ADD = 1;
    private static final int BECOME = 2;
    private static final int ADD_ONE = 3;
    private static final int GREATER = 4;
    private static final int LESSER = 5;
    private static final int EMIT = 6;
    private static final int BY_STREAM = 0;
    private static final int BY_VALUE = 1;
    private static final int CELL_0 = 2;
    private static final int[] OUTSIDE_8 = {-1, 8, Integer.MIN_VALUE, Integer.MAX_VALUE};
    private static final int[] OUTSIDE_16 = {-1, 16, Integer.MIN_VALUE, Integer.MAX_VALUE};

    private static final Checks c = new Checks();

    public static void main(String[] args) {
        newObject();
        append();
        appendRefuses();
        appendToFullLog();
        rule();
        ruleRefuses();
        advance();
        advanceFolds();
        advanceEmits();
        advanceEmitsOnce();
        advanceStaysAtFullLog();
        advanceRefuses();
        save();
        cell();
        filter();
        next();
        acknowledge();
        sync();
        crashLog();
        crashProjections();
        crashEmitted();
        crashSubscriptions();
        event();
        value();
        find();
        count();
        c.end();
    }

    /** Fills the log by appends of kind 0 to stream 0. */
    private static EventKeeper filled(int events) {
        EventKeeper x = new EventKeeper();
        for (int i = 0; i < events; i++) {
            x.append(0, -1, 0, i);
        }
        return x;
    }

    private static void newObject() {
        c.promise("1 a new object");
        EventKeeper x = new EventKeeper();
        c.answers("count(0, 0)", 0, () -> x.count(0, 0));
        c.answers("count(1, 0)", 0, () -> x.count(1, 0));
        for (int i = 0; i < 16; i++) {
            int k = i;
            c.answers("count(2, " + k + ")", 0, () -> x.count(2, k));
        }
        for (int i = 0; i < 8; i++) {
            int k = i;
            c.answers("count(3, " + k + ")", 0, () -> x.count(3, k));
            c.answers("count(4, " + k + ")", 0, () -> x.count(4, k));
            c.answers("count(5, " + k + ")", 0, () -> x.count(5, k));
            c.answers("next(" + k + ") of none", -1, () -> x.next(k));
        }
        for (int i = 0; i < 8; i++) {
            int kind = i;
            c.answers("append of kind " + kind, kind, () -> x.append(kind * 2 + 1, 0, kind, 5));
        }
        for (int i = 0; i < 8; i++) {
            int k = i;
            c.answers("advance(" + k + ", 1000)", 8, () -> x.advance(k, 1000));
            for (int j = 0; j < 16; j++) {
                int cell = j;
                c.answers("cell(" + k + ", " + cell + ")", 0, () -> x.cell(k, cell));
            }
            c.answers("next(" + k + ")", 0, () -> x.next(k));
        }
        c.answers("count(0, 0) after rules that do nothing", 8, () -> x.count(0, 0));
        EventKeeper y = new EventKeeper();
        for (int i = 0; i < 8; i++) {
            int kind = i;
            y.append(15 - kind, -1, kind, 0);
            c.answers("next(7) of kind " + kind, kind, () -> y.next(7));
            y.acknowledge(7, kind);
        }
        c.answers("count(0, 0) of another new object", 0, () -> new EventKeeper().count(0, 0));
    }

    private static void append() {
        c.promise("2 append");
        EventKeeper x = new EventKeeper();
        c.answers("append(0, 0, 0, 7)", 0, () -> x.append(0, 0, 0, 7));
        c.answers("append(15, -1, 7, MIN)", 1, () -> x.append(15, -1, 7, Long.MIN_VALUE));
        c.answers("append(0, 1, 3, MAX)", 2, () -> x.append(0, 1, 3, Long.MAX_VALUE));
        c.answers("append(15, 1, 0, -1)", 3, () -> x.append(15, 1, 0, -1));
        c.answers("count(2, 0)", 2, () -> x.count(2, 0));
        c.answers("count(2, 15)", 2, () -> x.count(2, 15));
        c.answers("event(3, 1)", 1, () -> x.event(3, 1));
        c.answers("event(1, 2)", 7, () -> x.event(1, 2));
        c.answers("value(1)", Long.MIN_VALUE, () -> x.value(1));
        c.answers("event(2, 3)", -1, () -> x.event(2, 3));
        c.answers("event(2, 4)", -1, () -> x.event(2, 4));
    }

    private static void appendRefuses() {
        c.promise("2 append");
        EventKeeper x = filled(2);
        for (int s : OUTSIDE_16) {
            c.refusesArgument("append, stream " + s, () -> x.append(s, -1, 0, 0));
            c.refusesArgument("append, stream before expected " + s, () -> x.append(s, 9, 0, 0));
        }
        for (int k : OUTSIDE_8) {
            c.refusesArgument("append, kind " + k, () -> x.append(0, -1, k, 0));
            c.refusesArgument("append, kind before expected " + k, () -> x.append(0, 9, k, 0));
        }
        c.refusesArgument("append, expected -2", () -> x.append(0, -2, 0, 0));
        c.refusesArgument("append, expected MIN", () -> x.append(0, Integer.MIN_VALUE, 0, 0));
        c.refusesState("append, expected 0 of 2", () -> x.append(0, 0, 0, 0));
        c.refusesState("append, expected 1 of 2", () -> x.append(0, 1, 0, 0));
        c.refusesState("append, expected 3 of 2", () -> x.append(0, 3, 0, 0));
        c.refusesState("append, expected MAX", () -> x.append(0, Integer.MAX_VALUE, 0, 0));
        c.refusesState("append, expected is of the stream", () -> x.append(1, 2, 0, 0));
        c.answers("count(0, 0) after refusals", 2, () -> x.count(0, 0));
        c.answers("count(2, 0) after refusals", 2, () -> x.count(2, 0));
        c.answers("append(0, 2, 0, 0)", 2, () -> x.append(0, 2, 0, 0));
    }

    private static void appendToFullLog() {
        c.promise("2 append");
        EventKeeper x = filled(499);
        c.answers("append of the 500th", 499, () -> x.append(0, 499, 0, 0));
        c.refusesIndex("append to a full log", () -> x.append(0, -1, 0, 0));
        c.refusesIndex("append to a full log, as expected", () -> x.append(0, 500, 0, 0));
        c.refusesState("append to a full log, not as expected", () -> x.append(0, 1, 0, 0));
        c.refusesArgument("append to a full log, kind 8", () -> x.append(0, -1, 8, 0));
        c.answers("count(0, 0)", 500, () -> x.count(0, 0));
        c.answers("crash()", 0, x::crash);
        c.answers("append after a crash", 0, () -> x.append(0, 0, 0, 0));
    }

    private static void rule() {
        c.promise("3 rule");
        EventKeeper x = new EventKeeper();
        x.rule(0, 0, ADD, BY_STREAM);
        x.rule(1, 0, ADD, BY_STREAM);
        x.append(2, -1, 0, 10);
        x.append(3, -1, 1, 20);
        x.advance(0, 9);
        x.advance(1, 9);
        x.save(0);
        x.save(1);
        x.sync();
        c.passes("rule(0, 1, BECOME, BY_STREAM)", () -> x.rule(0, 1, BECOME, BY_STREAM));
        c.answers("position is 0", 0, () -> x.count(3, 0));
        c.answers("cells are 0", 0, () -> x.cell(0, 2));
        c.answers("the position of another stays", 2, () -> x.count(3, 1));
        c.answers("the cells of another stay", 10, () -> x.cell(1, 2));
        x.advance(0, 9);
        c.answers("the rule of another kind stays", 10, () -> x.cell(0, 2));
        c.answers("the new rule", 20, () -> x.cell(0, 3));
        x.crash();
        c.answers("nothing is saved", 0, () -> x.count(3, 0));
        c.answers("no cells are saved", 0, () -> x.cell(0, 2));
        c.answers("what another saved stays", 2, () -> x.count(3, 1));
        c.answers("what another saved stays", 10, () -> x.cell(1, 2));
        x.advance(0, 9);
        c.answers("rules outlive a crash", 20, () -> x.cell(0, 3));
        x.rule(0, 1, NOTHING, BY_STREAM);
        x.advance(0, 9);
        c.answers("a rule is replaced", 0, () -> x.cell(0, 3));
    }

    private static void ruleRefuses() {
        c.promise("3 rule");
        EventKeeper x = new EventKeeper();
        x.rule(0, 0, ADD, CELL_0);
        x.append(0, -1, 0, 5);
        x.advance(0, 1);
        for (int p : OUTSIDE_8) {
            c.refusesArgumentOf("rule, projection " + p, () -> x.rule(p, 0, 0, 0));
            c.refusesArgumentOf("rule, kind " + p, () -> x.rule(0, p, 0, 0));
        }
        c.refusesArgumentOf("rule, what -1", () -> x.rule(0, 0, -1, 0));
        c.refusesArgumentOf("rule, what 7", () -> x.rule(0, 0, 7, 0));
        c.refusesArgumentOf("rule, cell -1", () -> x.rule(0, 0, 0, -1));
        c.refusesArgumentOf("rule, cell 3", () -> x.rule(0, 0, 0, 3));
        c.answers("position after refusals", 1, () -> x.count(3, 0));
        c.answers("cell after refusals", 5, () -> x.cell(0, 0));
        for (int what = 0; what <= 6; what++) {
            for (int cell = 0; cell <= 2; cell++) {
                int w = what;
                int k = cell;
                c.passes("rule(7, 7, " + w + ", " + k + ")", () -> x.rule(7, 7, w, k));
            }
        }
    }

    private static void advance() {
        c.promise("4 advance");
        EventKeeper x = filled(5);
        c.answers("advance(3, 0)", 0, () -> x.advance(3, 0));
        c.answers("advance(3, 2)", 2, () -> x.advance(3, 2));
        c.answers("count(3, 3)", 2, () -> x.count(3, 3));
        c.answers("advance(3, 1000)", 3, () -> x.advance(3, 1000));
        c.answers("advance(3, 1) at the end", 0, () -> x.advance(3, 1));
        c.answers("count(3, 3)", 5, () -> x.count(3, 3));
        c.answers("count(3, 4) of another", 0, () -> x.count(3, 4));
        x.append(0, -1, 0, 0);
        c.answers("advance(3, 9) of a new event", 1, () -> x.advance(3, 9));
    }

    private static void advanceFolds() {
        c.promise("4 advance");
        c.answers("nothing", 0, () -> fold(NOTHING, 5, 7));
        c.answers("add", 12, () -> fold(ADD, 5, 7));
        c.answers("add wraps", Long.MIN_VALUE, () -> fold(ADD, Long.MAX_VALUE, 1));
        c.answers("become", 7, () -> fold(BECOME, 5, 7));
        c.answers("add one", 2, () -> fold(ADD_ONE, 5, 7));
        c.answers("the greater", 7, () -> fold(GREATER, 7, 5));
        c.answers("the greater is 0 at first", 0, () -> fold(GREATER, -7, -5));
        c.answers("the greater by sign", 0, () -> fold(GREATER, Long.MIN_VALUE, -1));
        c.answers("the lesser", -7, () -> fold(LESSER, -7, -5));
        c.answers("the lesser is 0 at first", 0, () -> fold(LESSER, 7, 5));
        c.answers("the lesser by sign", Long.MIN_VALUE, () -> fold(LESSER, Long.MIN_VALUE, 5));
        EventKeeper x = new EventKeeper();
        x.rule(0, 0, ADD, BY_STREAM);
        x.rule(0, 1, ADD, BY_VALUE);
        x.rule(0, 2, ADD, CELL_0);
        x.append(9, -1, 0, 100);
        x.append(9, -1, 1, 0x123L);
        x.append(9, -1, 1, -1);
        x.append(9, -1, 2, 8);
        x.append(9, -1, 3, 1000);
        x.advance(0, 1000);
        c.answers("the cell of the stream", 100, () -> x.cell(0, 9));
        c.answers("the cell of the value", 0x123L, () -> x.cell(0, 3));
        c.answers("the cell of the value -1", -1, () -> x.cell(0, 15));
        c.answers("cell 0", 8, () -> x.cell(0, 0));
    }

    private static long fold(int what, long first, long second) {
        EventKeeper x = new EventKeeper();
        x.rule(5, 4, what, CELL_0);
        x.append(3, -1, 4, first);
        x.append(3, -1, 4, second);
        x.advance(5, 2);
        return x.cell(5, 0);
    }

    private static void advanceEmits() {
        c.promise("4 advance");
        EventKeeper x = new EventKeeper();
        x.rule(2, 1, EMIT, BY_STREAM);
        x.append(6, -1, 1, 0x54L);
        x.append(4, -1, 0, 0);
        x.append(6, -1, 1, 0x54L);
        c.answers("advance(2, 2)", 2, () -> x.advance(2, 2));
        c.answers("odd: none emitted", 3, () -> x.count(0, 0));
        c.answers("odd: one more", 1, () -> x.cell(2, 6));
        c.answers("the emitted one is taken too", 2, () -> x.advance(2, 9));
        c.answers("one emitted", 4, () -> x.count(0, 0));
        c.answers("its stream", 4, () -> x.event(3, 0));
        c.answers("its version", 1, () -> x.event(3, 1));
        c.answers("its kind", 7, () -> x.event(3, 2));
        c.answers("the projection of its cause", 2, () -> x.event(3, 3));
        c.answers("the place of its cause", 2, () -> x.event(3, 4));
        c.answers("its value", 2, () -> x.value(3));
        c.answers("the cell", 2, () -> x.cell(2, 6));
        c.answers("count(5, 2)", 1, () -> x.count(5, 2));
        c.answers("the stream goes on", 4, () -> x.append(4, 2, 0, 0));
        EventKeeper y = new EventKeeper();
        y.rule(0, 7, EMIT, CELL_0);
        y.append(0, -1, 7, -1);
        y.append(0, -1, 7, -2);
        c.answers("own emitted ones emit: 2 + 1", 3, () -> y.advance(0, 1000));
        y.append(0, -1, 7, -3);
        c.answers("own emitted ones emit: 1 + 1", 2, () -> y.advance(0, 1000));
        c.answers("the stream of a negative value", 14, () -> y.event(2, 0));
        c.answers("the value", 4, () -> y.value(4));
    }

    private static void advanceEmitsOnce() {
        c.promise("4 advance");
        EventKeeper x = new EventKeeper();
        x.rule(0, 0, EMIT, CELL_0);
        x.rule(1, 0, EMIT, CELL_0);
        for (int i = 0; i < 4; i++) {
            x.append(0, -1, 0, 1);
        }
        x.advance(0, 1000);
        c.answers("two emitted", 6, () -> x.count(0, 0));
        x.rule(0, 0, EMIT, CELL_0);
        c.answers("taken again", 6, () -> x.advance(0, 1000));
        c.answers("none emitted twice", 6, () -> x.count(0, 0));
        c.answers("counted all the same", 4, () -> x.cell(0, 0));
        c.answers("another projection is another cause", 6, () -> x.advance(1, 6));
        c.answers("it emits its own", 8, () -> x.count(0, 0));
        x.rule(0, 0, EMIT, BY_VALUE);
        x.append(0, -1, 0, 2);
        x.append(0, -1, 0, 1);
        x.advance(0, 1000);
        c.answers("an odd cell emits nothing", 8 + 2, () -> x.count(0, 0));
        x.append(0, -1, 0, 1);
        x.advance(0, 1000);
        c.answers("a cause of its own emits", 8 + 2 + 2, () -> x.count(0, 0));
        c.answers("count(5, 0)", 3, () -> x.count(5, 0));
        c.answers("count(5, 1)", 2, () -> x.count(5, 1));
    }

    private static void advanceStaysAtFullLog() {
        c.promise("4 advance");
        EventKeeper x = filled(499);
        x.sync();
        x.rule(0, 0, EMIT, CELL_0);
        x.rule(0, 7, ADD_ONE, BY_STREAM);
        c.answers("advance(0, 1000) until the log is full", 3, () -> x.advance(0, 1000));
        c.answers("the log is full", 500, () -> x.count(0, 0));
        c.answers("the position stays", 3, () -> x.count(3, 0));
        c.answers("the cell stays", 3, () -> x.cell(0, 0));
        c.answers("it goes on staying", 0, () -> x.advance(0, 1));
        c.answers("and its cell", 3, () -> x.cell(0, 0));
        x.rule(0, 0, EMIT, CELL_0);
        c.answers("what was emitted needs no room", 3, () -> x.advance(0, 1000));
        c.answers("the position stays again", 3, () -> x.count(3, 0));
        c.answers("crash()", 499, x::crash);
        c.answers("room for one again", 3, () -> x.advance(0, 1000));
        c.answers("it is emitted again", 1, () -> x.count(5, 0));
        c.answers("its cause", 1, () -> x.event(499, 4));
    }

    private static void advanceRefuses() {
        c.promise("4 advance");
        EventKeeper x = filled(3);
        for (int p : OUTSIDE_8) {
            c.refusesArgument("advance, projection " + p, () -> x.advance(p, 1));
        }
        c.refusesArgument("advance(0, -1)", () -> x.advance(0, -1));
        c.refusesArgument("advance(0, 1001)", () -> x.advance(0, 1001));
        c.refusesArgument("advance(0, MIN)", () -> x.advance(0, Integer.MIN_VALUE));
        c.refusesArgument("advance(0, MAX)", () -> x.advance(0, Integer.MAX_VALUE));
        c.answers("position after refusals", 0, () -> x.count(3, 0));
    }

    private static void save() {
        c.promise("5 save");
        EventKeeper x = filled(4);
        x.rule(0, 0, ADD, CELL_0);
        c.answers("save(0) at the start", 0, () -> x.save(0));
        x.advance(0, 3);
        c.answers("save(0)", 3, () -> x.save(0));
        x.sync();
        x.advance(0, 9);
        c.answers("what is saved does not change by advance", 6, () -> x.cell(0, 0));
        x.crash();
        c.answers("the position is the saved one", 3, () -> x.count(3, 0));
        c.answers("the cell is the saved one", 3, () -> x.cell(0, 0));
        x.advance(0, 9);
        c.answers("save(0) takes the place of what was saved", 4, () -> x.save(0));
        x.crash();
        c.answers("the later position", 4, () -> x.count(3, 0));
        c.answers("the later cell", 6, () -> x.cell(0, 0));
        c.answers("save of another", 0, () -> x.save(7));
        for (int p : OUTSIDE_8) {
            c.refusesArgument("save(" + p + ")", () -> x.save(p));
        }
    }

    private static void cell() {
        c.promise("6 cell");
        EventKeeper x = new EventKeeper();
        x.rule(7, 0, BECOME, BY_VALUE);
        for (int i = 0; i < 16; i++) {
            x.append(0, -1, 0, 0x7000000000000000L + i);
        }
        x.advance(7, 16);
        for (int i = 0; i < 16; i++) {
            int k = i;
            c.answers("cell(7, " + k + ")", 0x7000000000000000L + k, () -> x.cell(7, k));
            c.answers("cell(6, " + k + ")", 0, () -> x.cell(6, k));
        }
        for (int k : OUTSIDE_16) {
            c.refusesIndex("cell(7, " + k + ")", () -> x.cell(7, k));
        }
        for (int p : OUTSIDE_8) {
            c.refusesArgument("cell(" + p + ", 0)", () -> x.cell(p, 0));
            c.refusesArgument("cell(" + p + ", 16)", () -> x.cell(p, 16));
        }
    }

    private static void filter() {
        c.promise("7 filter");
        EventKeeper x = new EventKeeper();
        x.append(1, -1, 0, 0);
        x.append(2, -1, 1, 0);
        x.append(1, -1, 1, 0);
        x.append(15, -1, 7, 0);
        x.acknowledge(3, 2);
        x.acknowledge(4, 2);
        x.sync();
        c.passes("filter(3, 1, 2)", () -> x.filter(3, 1, 2));
        c.answers("the position is 0", 0, () -> x.count(4, 3));
        c.answers("a stream and a kind", 2, () -> x.next(3));
        c.answers("the position of another stays", 3, () -> x.count(4, 4));
        x.acknowledge(3, 0);
        x.crash();
        c.answers("none is safe", 0, () -> x.count(4, 3));
        c.answers("that of another is", 3, () -> x.count(4, 4));
        c.answers("the filter outlives a crash", 2, () -> x.next(3));
        c.passes("filter(3, -1, 2)", () -> x.filter(3, -1, 2));
        c.answers("all streams, a kind", 1, () -> x.next(3));
        c.passes("filter(3, 15, 128)", () -> x.filter(3, 15, 128));
        c.answers("the highest stream and kind", 3, () -> x.next(3));
        c.passes("filter(3, -1, 0)", () -> x.filter(3, -1, 0));
        c.answers("no kinds", -1, () -> x.next(3));
        c.passes("filter(3, -1, 255)", () -> x.filter(3, -1, 255));
        c.answers("all", 0, () -> x.next(3));
        x.acknowledge(3, 1);
        for (int s : OUTSIDE_8) {
            c.refusesArgumentOf("filter, subscription " + s, () -> x.filter(s, 0, 0));
        }
        c.refusesArgumentOf("filter, stream -2", () -> x.filter(3, -2, 0));
        c.refusesArgumentOf("filter, stream 16", () -> x.filter(3, 16, 0));
        c.refusesArgumentOf("filter, kinds -1", () -> x.filter(3, 0, -1));
        c.refusesArgumentOf("filter, kinds 256", () -> x.filter(3, 0, 256));
        c.answers("the position after refusals", 2, () -> x.count(4, 3));
        c.answers("the filter after refusals", 2, () -> x.next(3));
    }

    private static void next() {
        c.promise("8 next");
        EventKeeper x = new EventKeeper();
        c.answers("next(0) of none", -1, () -> x.next(0));
        x.filter(0, 4, 0b101);
        x.append(3, -1, 0, 0);
        x.append(4, -1, 1, 0);
        c.answers("next(0), none let through", -1, () -> x.next(0));
        x.append(4, -1, 2, 0);
        x.append(4, -1, 0, 0);
        c.answers("next(0)", 2, () -> x.next(0));
        c.answers("next(0) changes nothing", 2, () -> x.next(0));
        c.answers("the position stays", 0, () -> x.count(4, 0));
        x.acknowledge(0, 2);
        c.answers("next(0) from its position on", 3, () -> x.next(0));
        x.acknowledge(0, 3);
        c.answers("next(0) at the end", -1, () -> x.next(0));
        c.answers("next(7) of another", 0, () -> x.next(7));
        for (int s : OUTSIDE_8) {
            c.refusesArgument("next(" + s + ")", () -> x.next(s));
        }
    }

    private static void acknowledge() {
        c.promise("9 acknowledge");
        EventKeeper x = filled(5);
        x.filter(1, 9, 2);
        c.answers("acknowledge(1, 2), whatever the filter", 3, () -> x.acknowledge(1, 2));
        c.answers("count(4, 1)", 3, () -> x.count(4, 1));
        c.answers("acknowledge(1, 0), a lesser one", 3, () -> x.acknowledge(1, 0));
        c.answers("acknowledge(1, 2), the same", 3, () -> x.acknowledge(1, 2));
        c.answers("acknowledge(1, 3)", 4, () -> x.acknowledge(1, 3));
        c.answers("acknowledge(1, 4), the last", 5, () -> x.acknowledge(1, 4));
        c.answers("acknowledge(0, 0), the first", 1, () -> x.acknowledge(0, 0));
        for (int p : new int[] {-1, 5, Integer.MIN_VALUE, Integer.MAX_VALUE}) {
            c.refusesIndex("acknowledge(1, " + p + ")", () -> x.acknowledge(1, p));
        }
        for (int s : OUTSIDE_8) {
            c.refusesArgument("acknowledge(" + s + ", 0)", () -> x.acknowledge(s, 0));
            c.refusesArgument("acknowledge(" + s + ", 5)", () -> x.acknowledge(s, 5));
        }
        c.answers("count(4, 1) after refusals", 5, () -> x.count(4, 1));
        c.refusesIndex("acknowledge of no events", () -> new EventKeeper().acknowledge(0, 0));
    }

    private static void sync() {
        c.promise("10 sync");
        c.answers("sync() of none", 0, () -> new EventKeeper().sync());
        EventKeeper x = filled(3);
        x.acknowledge(0, 1);
        c.answers("sync()", 3, x::sync);
        c.answers("count(1, 0)", 3, () -> x.count(1, 0));
        x.append(0, -1, 0, 0);
        c.answers("count(1, 0) stays", 3, () -> x.count(1, 0));
        x.acknowledge(0, 2);
        c.answers("crash()", 3, x::crash);
        c.answers("the safe position", 2, () -> x.count(4, 0));
        x.append(0, -1, 0, 0);
        x.acknowledge(0, 3);
        c.answers("sync() again", 4, x::sync);
        c.answers("crash() loses nothing", 4, x::crash);
        c.answers("the later safe position", 4, () -> x.count(4, 0));
    }

    private static void crashLog() {
        c.promise("11 crash");
        c.answers("crash() of none", 0, () -> new EventKeeper().crash());
        EventKeeper x = new EventKeeper();
        x.append(1, -1, 2, 11);
        x.append(2, -1, 3, 22);
        x.sync();
        x.append(1, -1, 4, 33);
        x.append(3, -1, 5, 44);
        c.answers("crash()", 2, x::crash);
        c.answers("count(0, 0)", 2, () -> x.count(0, 0));
        c.answers("count(1, 0)", 2, () -> x.count(1, 0));
        c.answers("count(2, 1)", 1, () -> x.count(2, 1));
        c.answers("count(2, 3)", 0, () -> x.count(2, 3));
        c.refusesIndex("value(2)", () -> x.value(2));
        c.refusesIndex("event(2, 0)", () -> x.event(2, 0));
        c.refusesIndex("find(1, 1)", () -> x.find(1, 1));
        c.answers("value(1)", 22, () -> x.value(1));
        c.answers("versions go on", 2, () -> x.append(1, 1, 0, 55));
        c.answers("find(1, 1)", 2, () -> x.find(1, 1));
        c.answers("crash() again", 2, x::crash);
    }

    private static void crashProjections() {
        c.promise("11 crash");
        EventKeeper x = filled(4);
        for (int p = 0; p < 4; p++) {
            x.rule(p, 0, ADD_ONE, BY_VALUE);
            x.advance(p, 2);
        }
        x.save(0);
        x.sync();
        x.save(1);
        x.append(0, -1, 0, 0);
        x.save(2);
        x.advance(0, 9);
        x.crash();
        c.answers("saved before the sync", 2, () -> x.count(3, 0));
        c.answers("its cells", 0, () -> x.cell(0, 2));
        c.answers("saved at as many events", 2, () -> x.count(3, 1));
        c.answers("its cells", 1, () -> x.cell(1, 1));
        c.answers("saved at more events", 0, () -> x.count(3, 2));
        c.answers("its cells", 0, () -> x.cell(2, 1));
        c.answers("not saved", 0, () -> x.count(3, 3));
        c.answers("its cells", 0, () -> x.cell(3, 1));
        x.append(0, -1, 0, 0);
        x.append(0, -1, 0, 0);
        x.sync();
        x.crash();
        c.answers("what is saved stays so", 2, () -> x.count(3, 0));
        c.answers("what was given up is not saved", 0, () -> x.count(3, 2));
        c.answers("the rules stay", 6, () -> x.advance(2, 9));
        c.answers("the rules stay", 1, () -> x.cell(2, 3));
    }

    private static void crashEmitted() {
        c.promise("11 crash");
        EventKeeper x = new EventKeeper();
        x.rule(0, 0, EMIT, CELL_0);
        x.append(0, -1, 0, 1);
        x.append(0, -1, 0, 2);
        x.append(0, -1, 0, 3);
        x.append(0, -1, 0, 4);
        x.advance(0, 2);
        x.sync();
        x.advance(0, 9);
        c.answers("two emitted", 2, () -> x.count(5, 0));
        x.crash();
        c.answers("one is lost", 1, () -> x.count(5, 0));
        c.answers("taken from the start", 6, () -> x.advance(0, 9));
        c.answers("the lost one is emitted again", 2, () -> x.count(5, 0));
        c.answers("the other one is not", 6, () -> x.count(0, 0));
        c.answers("its cause", 3, () -> x.event(5, 4));
        EventKeeper y = new EventKeeper();
        y.rule(0, 0, EMIT, CELL_0);
        y.append(0, -1, 0, 1);
        y.append(0, -1, 0, 1);
        y.advance(0, 2);
        y.crash();
        c.answers("cause and effect are lost", 0, () -> y.count(5, 0));
        y.append(0, -1, 0, 1);
        y.append(0, -1, 0, 1);
        y.advance(0, 2);
        c.answers("new events cause new ones", 1, () -> y.count(5, 0));
    }

    private static void crashSubscriptions() {
        c.promise("11 crash");
        EventKeeper x = filled(4);
        x.filter(1, -1, 1);
        x.acknowledge(0, 3);
        x.acknowledge(1, 1);
        x.crash();
        c.answers("0 without a safe one", 0, () -> x.count(4, 0));
        for (int i = 0; i < 4; i++) {
            x.append(0, -1, i % 2, 0);
        }
        x.acknowledge(1, 1);
        x.sync();
        x.acknowledge(1, 3);
        x.acknowledge(0, 3);
        x.crash();
        c.answers("the safe one", 2, () -> x.count(4, 1));
        c.answers("the safe one of the start", 0, () -> x.count(4, 0));
        c.answers("the filter stays", 2, () -> x.next(1));
        x.acknowledge(1, 3);
        x.crash();
        c.answers("it stays safe", 2, () -> x.count(4, 1));
    }

    private static void event() {
        c.promise("12 event");
        EventKeeper x = new EventKeeper();
        x.append(9, -1, 3, 6);
        x.append(9, -1, 4, 6);
        x.append(8, -1, 3, 6);
        x.rule(5, 3, EMIT, CELL_0);
        x.advance(5, 9);
        long[][] due = {{9, 0, 3, -1, -1}, {9, 1, 4, -1, -1}, {8, 0, 3, -1, -1}, {6, 0, 7, 5, 2}};
        for (int i = 0; i < due.length; i++) {
            for (int j = 0; j < 5; j++) {
                int place = i;
                int what = j;
                c.answers("event(" + i + ", " + j + ")", due[i][j], () -> x.event(place, what));
            }
        }
        for (int what : new int[] {-1, 5, Integer.MIN_VALUE, Integer.MAX_VALUE}) {
            c.refusesArgument("event(0, " + what + ")", () -> x.event(0, what));
            c.refusesArgument("event(4, " + what + ")", () -> x.event(4, what));
        }
        for (int place : new int[] {-1, 4, 500, Integer.MIN_VALUE, Integer.MAX_VALUE}) {
            c.refusesIndex("event(" + place + ", 0)", () -> x.event(place, 0));
        }
    }

    private static void value() {
        c.promise("13 value");
        EventKeeper x = new EventKeeper();
        x.append(0, -1, 0, Long.MIN_VALUE);
        x.append(1, -1, 0, Long.MAX_VALUE);
        x.append(0, -1, 0, 0x100000001L);
        c.answers("value(0)", Long.MIN_VALUE, () -> x.value(0));
        c.answers("value(1)", Long.MAX_VALUE, () -> x.value(1));
        c.answers("value(2)", 0x100000001L, () -> x.value(2));
        for (int place : new int[] {-1, 3, 500, Integer.MIN_VALUE, Integer.MAX_VALUE}) {
            c.refusesIndex("value(" + place + ")", () -> x.value(place));
        }
    }

    private static void find() {
        c.promise("14 find");
        EventKeeper x = new EventKeeper();
        x.append(0, -1, 0, 0);
        x.append(15, -1, 0, 0);
        x.append(0, -1, 0, 0);
        x.append(15, -1, 0, 0);
        c.answers("find(0, 0)", 0, () -> x.find(0, 0));
        c.answers("find(0, 1)", 2, () -> x.find(0, 1));
        c.answers("find(15, 0)", 1, () -> x.find(15, 0));
        c.answers("find(15, 1)", 3, () -> x.find(15, 1));
        for (int v : new int[] {-1, 2, Integer.MIN_VALUE, Integer.MAX_VALUE}) {
            c.refusesIndex("find(0, " + v + ")", () -> x.find(0, v));
        }
        c.refusesIndex("find(7, 0)", () -> x.find(7, 0));
        for (int s : OUTSIDE_16) {
            c.refusesArgument("find(" + s + ", 0)", () -> x.find(s, 0));
            c.refusesArgument("find(" + s + ", -1)", () -> x.find(s, -1));
        }
    }

    private static void count() {
        c.promise("15 count");
        EventKeeper x = new EventKeeper();
        x.rule(7, 0, EMIT, CELL_0);
        x.append(15, -1, 0, 0);
        x.append(15, -1, 0, 0);
        x.append(0, -1, 0, 0);
        x.sync();
        x.advance(7, 2);
        x.acknowledge(7, 0);
        for (int k : new int[] {0, -1, 99, Integer.MIN_VALUE, Integer.MAX_VALUE}) {
            c.answers("count(0, " + k + ")", 4, () -> x.count(0, k));
            c.answers("count(1, " + k + ")", 3, () -> x.count(1, k));
        }
        c.answers("count(2, 15)", 2, () -> x.count(2, 15));
        c.answers("count(2, 0)", 2, () -> x.count(2, 0));
        c.answers("count(3, 7)", 2, () -> x.count(3, 7));
        c.answers("count(4, 7)", 1, () -> x.count(4, 7));
        c.answers("count(5, 7)", 1, () -> x.count(5, 7));
        c.answers("count(5, 0)", 0, () -> x.count(5, 0));
        for (int k : OUTSIDE_16) {
            c.refusesArgument("count(2, " + k + ")", () -> x.count(2, k));
        }
        for (int k : OUTSIDE_8) {
            c.refusesArgument("count(3, " + k + ")", () -> x.count(3, k));
            c.refusesArgument("count(4, " + k + ")", () -> x.count(4, k));
            c.refusesArgument("count(5, " + k + ")", () -> x.count(5, k));
        }
        for (int what : new int[] {-1, 6, Integer.MIN_VALUE, Integer.MAX_VALUE}) {
            c.refusesArgument("count(" + what + ", 0)", () -> x.count(what, 0));
        }
    }
}
