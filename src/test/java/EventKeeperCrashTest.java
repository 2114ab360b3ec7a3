/** The document's Terms 4, what a CRASH leaves: a test of its own for each sentence with a boundary. */
public final class EventKeeperCrashTest extends Given {
    public static void main(String[] args) {
        c.test(EventKeeperCrashTest::durableAlone);
        c.test(EventKeeperCrashTest::durableNone);
        c.test(EventKeeperCrashTest::durableAll);
        c.test(EventKeeperCrashTest::lostOnesLeaveNothing);
        c.test(EventKeeperCrashTest::savedWithNotMoreEvents);
        c.test(EventKeeperCrashTest::savedWithAsManyEvents);
        c.test(EventKeeperCrashTest::savedWithOneMore);
        c.test(EventKeeperCrashTest::savedWithFewer);
        c.test(EventKeeperCrashTest::savedCountsEventsNotItsPosition);
        c.test(EventKeeperCrashTest::savedWithEmittedOnes);
        c.test(EventKeeperCrashTest::savedInAnEmptyLog);
        c.test(EventKeeperCrashTest::onlyTheLatestSave);
        c.test(EventKeeperCrashTest::nothingSaved);
        c.test(EventKeeperCrashTest::givenUpIsNotSaved);
        c.test(EventKeeperCrashTest::savedStaysSaved);
        c.test(EventKeeperCrashTest::countedOnceAfterACrash);
        c.test(EventKeeperCrashTest::emittedOnceAfterACrash);
        c.test(EventKeeperCrashTest::eachProjectionForItself);
        c.test(EventKeeperCrashTest::safePosition);
        c.test(EventKeeperCrashTest::withoutASafeOne);
        c.test(EventKeeperCrashTest::staysSafe);
        c.test(EventKeeperCrashTest::notAboveTheEvents);
        c.test(EventKeeperCrashTest::rulesStay);
        c.test(EventKeeperCrashTest::filtersStay);
        c.end();
    }

    private static void durableAlone() {
        c.sentence("Terms 4", "THE LOG has the DURABLE EVENTS alone");
        EventKeeper x = new EventKeeper();
        x.append(1, -1, 2, 11);
        x.append(2, -1, 3, 22);
        x.sync();
        x.append(1, -1, 4, 33);
        c.answers("crash()", 2, x::crash);
        c.answers("count(0, 0)", 2, () -> x.count(0, 0));
        c.answers("value(0)", 11, () -> x.value(0));
        c.answers("value(1)", 22, () -> x.value(1));
        c.answers("event(1, 2)", 3, () -> x.event(1, 2));
        c.refusesIndex("value(2)", () -> x.value(2));
        c.refusesIndex("event(2, 0)", () -> x.event(2, 0));
        c.refusesIndex("acknowledge(0, 2)", () -> x.acknowledge(0, 2));
        c.answers("acknowledge(0, 1)", 2, () -> x.acknowledge(0, 1));
        c.answers("next(0)", -1, () -> x.next(0));
        c.answers("advance(0, 9)", 2, () -> x.advance(0, 9));
    }

    private static void durableNone() {
        c.sentence("Terms 4", "THE LOG has the DURABLE EVENTS alone", "there are none");
        EventKeeper x = filled(3);
        c.answers("crash()", 0, x::crash);
        c.answers("count(0, 0)", 0, () -> x.count(0, 0));
        c.answers("count(1, 0)", 0, () -> x.count(1, 0));
        c.refusesIndex("value(0)", () -> x.value(0));
        c.answers("next(0)", -1, () -> x.next(0));
        c.answers("append", 0, () -> x.append(0, 0, 0, 0));
        EventKeeper y = new EventKeeper();
        y.sync();
        y.append(0, -1, 0, 0);
        c.answers("crash(), the sync before all", 0, y::crash);
    }

    private static void durableAll() {
        c.sentence("Terms 4", "THE LOG has the DURABLE EVENTS alone", "all of them are");
        EventKeeper x = filled(500);
        x.sync();
        c.answers("crash()", 500, x::crash);
        c.answers("count(0, 0)", 500, () -> x.count(0, 0));
        c.answers("value(499)", 499, () -> x.value(499));
        c.refusesIndex("append", () -> x.append(0, -1, 0, 0));
        c.answers("crash() again", 500, x::crash);
    }

    private static void lostOnesLeaveNothing() {
        c.sentence("Terms 4", "THE LOG has the DURABLE EVENTS alone", "STREAMS, VERSIONS and CAUSES go by them");
        EventKeeper x = emitting(2);
        x.sync();
        x.append(3, -1, 1, 0);
        x.append(4, -1, 1, 0);
        x.advance(0, 9);
        c.answers("count(5, 0)", 1, () -> x.count(5, 0));
        x.crash();
        c.answers("count(5, 0)", 0, () -> x.count(5, 0));
        c.answers("count(2, 3)", 2, () -> x.count(2, 3));
        c.answers("count(2, 4)", 0, () -> x.count(2, 4));
        c.answers("count(2, 1)", 0, () -> x.count(2, 1));
        c.refusesIndex("find(3, 2)", () -> x.find(3, 2));
        c.refusesIndex("find(4, 0)", () -> x.find(4, 0));
        c.refusesState("append(3, 3, ..)", () -> x.append(3, 3, 0, 0));
        c.answers("append(3, 2, ..)", 2, () -> x.append(3, 2, 0, 0));
        c.answers("event(2, 1)", 2, () -> x.event(2, 1));
        c.answers("find(3, 2)", 2, () -> x.find(3, 2));
    }

    /** Projection 0 counts and has taken 2 of 4 events of which so many are durable, and none is saved. */
    private static EventKeeper counting(int durable) {
        EventKeeper x = new EventKeeper();
        x.rule(0, 0, ADD_ONE, CELL_0);
        for (int i = 0; i < 4; i++) {
            if (i == durable) {
                x.sync();
            }
            x.append(0, -1, 0, i);
        }
        if (durable == 4) {
            x.sync();
        }
        x.advance(0, 2);
        return x;
    }

    private static void isAsSaved(EventKeeper x) {
        c.answers("count(3, 0), as it was saved", 2, () -> x.count(3, 0));
        c.answers("cell(0, 0), as it was saved", 2, () -> x.cell(0, 0));
    }

    private static void startsOver(EventKeeper x) {
        c.answers("count(3, 0), from the start", 0, () -> x.count(3, 0));
        c.answers("cell(0, 0), from the start", 0, () -> x.cell(0, 0));
    }

    private static void savedWithNotMoreEvents() {
        c.sentence("Terms 4", "A PROJECTION is as it was SAVED");
        EventKeeper x = counting(4);
        x.save(0);
        x.advance(0, 9);
        x.crash();
        isAsSaved(x);
    }

    private static void savedWithAsManyEvents() {
        c.sentence("Terms 4", "if THE LOG had not more EVENTS then than it has now", "as many");
        EventKeeper x = counting(4);
        x.save(0);
        x.append(0, -1, 0, 0);
        x.crash();
        isAsSaved(x);
        EventKeeper y = counting(2);
        y.save(0);
        y.sync();
        y.crash();
        isAsSaved(y);
    }

    private static void savedWithOneMore() {
        c.sentence("Terms 4", "else .. its CELLS and POSITION are 0");
        EventKeeper x = counting(3);
        x.save(0);
        x.crash();
        startsOver(x);
        EventKeeper y = counting(0);
        y.save(0);
        y.crash();
        startsOver(y);
    }

    private static void savedWithFewer() {
        c.sentence("Terms 4", "if THE LOG had not more EVENTS then than it has now", "fewer");
        EventKeeper x = counting(4);
        x.save(0);
        x.append(0, -1, 0, 0);
        x.sync();
        x.append(0, -1, 0, 0);
        x.crash();
        isAsSaved(x);
    }

    private static void savedCountsEventsNotItsPosition() {
        c.sentence("Terms 4", "if THE LOG had not more EVENTS then", "its EVENTS, wherever the POSITION is");
        EventKeeper x = counting(4);
        x.append(0, -1, 0, 0);
        x.save(0);
        c.answers("crash() to more events than the position", 4, x::crash);
        startsOver(x);
    }

    private static void savedWithEmittedOnes() {
        c.sentence("Terms 4", "if THE LOG had not more EVENTS then", "emitted ones too");
        EventKeeper x = emitting(2);
        x.sync();
        x.advance(0, 2);
        x.save(0);
        x.crash();
        startsOver(x);
        x.advance(0, 2);
        x.save(0);
        x.sync();
        x.crash();
        isAsSaved(x);
    }

    private static void savedInAnEmptyLog() {
        c.sentence("Terms 4", "if THE LOG had not more EVENTS then than it has now", "none then, none now");
        EventKeeper x = new EventKeeper();
        x.rule(0, 0, ADD_ONE, CELL_0);
        c.answers("save(0)", 0, () -> x.save(0));
        x.append(0, -1, 0, 0);
        x.advance(0, 1);
        x.crash();
        startsOver(x);
        x.append(0, -1, 0, 0);
        c.answers("advance(0, 9)", 1, () -> x.advance(0, 9));
    }

    private static void onlyTheLatestSave() {
        c.sentence("Terms 4", "A PROJECTION is as it was SAVED", "by the latest save() alone");
        EventKeeper x = counting(4);
        x.save(0);
        x.advance(0, 1);
        x.save(0);
        x.crash();
        c.answers("count(3, 0)", 3, () -> x.count(3, 0));
        c.answers("cell(0, 0)", 3, () -> x.cell(0, 0));
        x.append(0, -1, 0, 0);
        x.save(0);
        x.crash();
        startsOver(x);
    }

    private static void nothingSaved() {
        c.sentence("Terms 4", "(or if nothing is SAVED) its CELLS and POSITION are 0");
        EventKeeper x = counting(4);
        c.answers("crash()", 4, x::crash);
        startsOver(x);
        EventKeeper y = new EventKeeper();
        y.rule(3, 0, BECOME, BY_VALUE);
        for (int i = 0; i < 16; i++) {
            y.append(0, -1, 0, 1600 + i);
        }
        y.sync();
        y.advance(3, 16);
        y.crash();
        for (int k : below(16)) {
            c.answers("cell(3, " + k + ")", 0, () -> y.cell(3, k));
        }
    }

    private static void givenUpIsNotSaved() {
        c.sentence("Terms 4", "and nothing is SAVED");
        EventKeeper x = counting(3);
        x.save(0);
        x.crash();
        x.append(0, -1, 0, 0);
        x.append(0, -1, 0, 0);
        x.sync();
        x.crash();
        startsOver(x);
        x.advance(0, 2);
        x.crash();
        startsOver(x);
        x.advance(0, 2);
        x.save(0);
        x.crash();
        isAsSaved(x);
    }

    private static void savedStaysSaved() {
        c.sentence("Terms 4", "A PROJECTION is as it was SAVED", "at each CRASH");
        EventKeeper x = counting(4);
        x.save(0);
        for (int i = 0; i < 3; i++) {
            x.crash();
            isAsSaved(x);
            x.advance(0, 1 + i);
        }
    }

    private static void countedOnceAfterACrash() {
        c.sentence("What it is", "nothing is counted .. twice");
        EventKeeper x = counting(4);
        x.save(0);
        x.advance(0, 9);
        c.answers("cell(0, 0)", 4, () -> x.cell(0, 0));
        x.crash();
        c.answers("advance(0, 9)", 2, () -> x.advance(0, 9));
        c.answers("cell(0, 0)", 4, () -> x.cell(0, 0));
    }

    private static void emittedOnceAfterACrash() {
        c.sentence("What it is", "nothing is .. emitted twice");
        EventKeeper x = emitting(4);
        x.advance(0, 1);
        x.save(0);
        x.advance(0, 3);
        c.answers("count(0, 0)", 6, () -> x.count(0, 0));
        x.sync();
        x.crash();
        c.answers("count(3, 0)", 1, () -> x.count(3, 0));
        c.answers("advance(0, 9)", 5, () -> x.advance(0, 9));
        c.answers("count(0, 0)", 6, () -> x.count(0, 0));
        c.answers("cell(0, 0)", 4, () -> x.cell(0, 0));
    }

    private static void eachProjectionForItself() {
        c.sentence("Terms 4", "A PROJECTION is as it was SAVED .. else (or if nothing is SAVED)", "each for itself");
        for (int shift : below(3)) {
            EventKeeper x = filled(4);
            x.sync();
            for (int p : below(8)) {
                x.rule(p, 0, ADD_ONE, CELL_0);
                x.advance(p, 1 + p % 3);
                if ((p + shift) % 3 == 0) {
                    x.save(p);
                }
            }
            x.append(0, -1, 0, 0);
            for (int p : below(8)) {
                if ((p + shift) % 3 == 1) {
                    x.save(p);
                }
            }
            x.crash();
            for (int p : below(8)) {
                int due = (p + shift) % 3 == 0 ? 1 + p % 3 : 0;
                c.answers("count(3, " + p + "), shift " + shift, due, () -> x.count(3, p));
                c.answers("cell(" + p + ", 0), shift " + shift, due, () -> x.cell(p, 0));
            }
        }
    }

    private static void safePosition() {
        c.sentence("Terms 4", "SUBSCRIPTIONS have their SAFE POSITION");
        EventKeeper x = filled(9);
        for (int s : below(8)) {
            x.acknowledge(s, s);
        }
        x.sync();
        for (int s : below(8)) {
            x.acknowledge(s, 8);
        }
        x.crash();
        for (int s : below(8)) {
            c.answers("count(4, " + s + ")", s + 1, () -> x.count(4, s));
            c.answers("next(" + s + ")", s + 1, () -> x.next(s));
        }
    }

    private static void withoutASafeOne() {
        c.sentence("Terms 4", "(0 without one");
        EventKeeper x = filled(3);
        x.acknowledge(0, 2);
        x.crash();
        c.answers("count(4, 0) without a sync", 0, () -> x.count(4, 0));
        EventKeeper y = filled(3);
        y.acknowledge(0, 2);
        y.sync();
        y.filter(0, -1, 255);
        y.acknowledge(0, 1);
        y.crash();
        c.answers("count(4, 0) without a sync behind its filter", 0, () -> y.count(4, 0));
    }

    private static void staysSafe() {
        c.sentence("Terms 4", "it stays SAFE");
        EventKeeper x = filled(4);
        x.acknowledge(0, 1);
        x.sync();
        for (int i = 0; i < 3; i++) {
            c.answers("acknowledge(0, 3)", 4, () -> x.acknowledge(0, 3));
            x.crash();
            c.answers("count(4, 0)", 2, () -> x.count(4, 0));
        }
    }

    /** No run of calls leads above it: what is safe was behind an event that is durable since. */
    private static void notAboveTheEvents() {
        c.sentence("Terms 4", "but not above how many EVENTS there are");
        EventKeeper x = filled(3);
        x.acknowledge(0, 2);
        x.sync();
        x.append(0, -1, 0, 0);
        x.acknowledge(0, 3);
        c.answers("crash()", 3, x::crash);
        c.answers("count(4, 0)", 3, () -> x.count(4, 0));
        x.append(0, -1, 0, 0);
        c.answers("next(0)", 3, () -> x.next(0));
        EventKeeper y = filled(3);
        y.acknowledge(0, 2);
        c.answers("crash()", 0, y::crash);
        c.answers("count(4, 0)", 0, () -> y.count(4, 0));
        y.append(0, -1, 0, 0);
        c.answers("next(0)", 0, () -> y.next(0));
    }

    private static void rulesStay() {
        c.sentence("Terms 4", "RULES .. stay");
        EventKeeper x = filled(4);
        x.sync();
        for (int p : below(3)) {
            x.rule(p, 0, ADD_ONE, BY_VALUE);
            x.advance(p, 1);
        }
        x.save(1);
        x.append(0, -1, 0, 0);
        x.save(2);
        for (int times : below(2)) {
            x.crash();
            for (int p : below(3)) {
                c.answers("advance(" + p + ", 9), crash " + times, p == 1 ? 3 : 4, () -> x.advance(p, 9));
                c.answers("cell(" + p + ", 0), crash " + times, 1, () -> x.cell(p, 0));
                c.answers("cell(" + p + ", 3), crash " + times, 1, () -> x.cell(p, 3));
            }
        }
    }

    private static void filtersStay() {
        c.sentence("Terms 4", "FILTERS stay");
        EventKeeper x = new EventKeeper();
        x.append(0, -1, 0, 0);
        x.append(0, -1, 1, 0);
        x.append(1, -1, 1, 0);
        x.filter(0, 1, 255);
        x.sync();
        x.filter(1, -1, 2);
        x.crash();
        c.answers("next(0), set before the sync", 2, () -> x.next(0));
        c.answers("next(1), set behind the sync", 1, () -> x.next(1));
        c.answers("next(2), not set", 0, () -> x.next(2));
    }
}
