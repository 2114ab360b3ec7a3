/**
 * The document's Terms 1 to 3: a test of its own for each sentence that names a boundary case.
 * Terms 4 is in EventKeeperCrashTest and EventKeeperRefusalsTest.
 */
public final class EventKeeperTermsTest extends Given {
    public static void main(String[] args) {
        c.test(EventKeeperTermsTest::fiveHundredEvents);
        c.test(EventKeeperTermsTest::fiveHundredEventsByEmitting);
        c.test(EventKeeperTermsTest::sixteenStreams);
        c.test(EventKeeperTermsTest::versionsInTheirOrder);
        c.test(EventKeeperTermsTest::eightKinds);
        c.test(EventKeeperTermsTest::valuesOf64Bits);
        c.test(EventKeeperTermsTest::causeNone);
        c.test(EventKeeperTermsTest::causeOfEachProjection);
        c.test(EventKeeperTermsTest::causeAtTheLastPlaces);
        c.test(EventKeeperTermsTest::durableAtTheLatestSync);
        c.test(EventKeeperTermsTest::eightProjections);
        c.test(EventKeeperTermsTest::oneRuleForEachKind);
        c.test(EventKeeperTermsTest::sixteenCells);
        c.test(EventKeeperTermsTest::cellsWrap);
        c.test(EventKeeperTermsTest::cellsAreZeroAtFirst);
        c.test(EventKeeperTermsTest::positionIsTheNextPlace);
        c.test(EventKeeperTermsTest::whatARuleDoes);
        c.test(EventKeeperTermsTest::cellOfTheStream);
        c.test(EventKeeperTermsTest::cellOfTheValue);
        c.test(EventKeeperTermsTest::cellZero);
        c.test(EventKeeperTermsTest::emitIfEven);
        c.test(EventKeeperTermsTest::emittedStream);
        c.test(EventKeeperTermsTest::emittedKind);
        c.test(EventKeeperTermsTest::emittedValue);
        c.test(EventKeeperTermsTest::emittedVersion);
        c.test(EventKeeperTermsTest::emittedIsAnEventAsOthersAre);
        c.test(EventKeeperTermsTest::notTwiceForACause);
        c.test(EventKeeperTermsTest::notTwiceWhateverTheRule);
        c.test(EventKeeperTermsTest::countedAllTheSame);
        c.test(EventKeeperTermsTest::causeOfAnotherProjection);
        c.test(EventKeeperTermsTest::notTwiceForEachProjection);
        c.test(EventKeeperTermsTest::causeOfAnotherPlace);
        c.test(EventKeeperTermsTest::causeIsFreeWhenLost);
        c.test(EventKeeperTermsTest::causeOfAnotherIsLost);
        c.test(EventKeeperTermsTest::staysAtAFullLog);
        c.test(EventKeeperTermsTest::staysUntilThereIsRoom);
        c.test(EventKeeperTermsTest::staysOnlyIfItIsToBeAppended);
        c.test(EventKeeperTermsTest::staysOnlyIfEven);
        c.test(EventKeeperTermsTest::staysAlone);
        c.test(EventKeeperTermsTest::savedAsItWas);
        c.test(EventKeeperTermsTest::eightSubscriptions);
        c.test(EventKeeperTermsTest::streamOrAll);
        c.test(EventKeeperTermsTest::someKinds);
        c.test(EventKeeperTermsTest::firstFromThePositionOn);
        c.test(EventKeeperTermsTest::acknowledgedBySync);
        c.end();
    }

    private static void fiveHundredEvents() {
        c.sentence("Terms 1", "EVENTS have places 0, 1 .. in THE LOG (up to 500)");
        EventKeeper x = filled(499);
        c.answers("append of the 500th", 499, () -> x.append(0, -1, 0, 77));
        c.refusesIndex("append of the 501st", () -> x.append(0, -1, 0, 78));
        c.answers("count(0, 0)", 500, () -> x.count(0, 0));
        c.answers("value(0)", 0, () -> x.value(0));
        c.answers("value(498)", 498, () -> x.value(498));
        c.answers("value(499)", 77, () -> x.value(499));
        c.answers("event(499, 1)", 499, () -> x.event(499, 1));
        c.answers("find(0, 499)", 499, () -> x.find(0, 499));
        c.refusesIndex("value(500)", () -> x.value(500));
        c.answers("next(0)", 0, () -> x.next(0));
        c.answers("acknowledge(0, 499)", 500, () -> x.acknowledge(0, 499));
        c.answers("next(0) behind the last", -1, () -> x.next(0));
        c.answers("sync()", 500, x::sync);
    }

    private static void fiveHundredEventsByEmitting() {
        c.sentence("Terms 1", "EVENTS have places 0, 1 .. in THE LOG (up to 500)", "emitted ones too");
        EventKeeper x = emitting(499);
        c.answers("advance(0, 2)", 2, () -> x.advance(0, 2));
        c.answers("count(0, 0)", 500, () -> x.count(0, 0));
        c.answers("event(499, 2)", 7, () -> x.event(499, 2));
        c.answers("advance(0, 2)", 1, () -> x.advance(0, 2));
        c.answers("count(0, 0)", 500, () -> x.count(0, 0));
        c.refusesIndex("append", () -> x.append(0, -1, 0, 0));
    }

    private static void sixteenStreams() {
        c.sentence("Terms 1", "a STREAM (0..15)");
        EventKeeper x = new EventKeeper();
        for (int s : below(16)) {
            c.answers("append(" + s + ", 0, ..)", s, () -> x.append(s, 0, 0, 0));
        }
        for (int s : below(16)) {
            c.answers("append(" + s + ", 1, ..)", 16 + s, () -> x.append(s, 1, 0, 0));
            c.answers("event(" + (16 + s) + ", 0)", s, () -> x.event(16 + s, 0));
            c.answers("count(2, " + s + ")", 2, () -> x.count(2, s));
            c.answers("find(" + s + ", 1)", 16 + s, () -> x.find(s, 1));
        }
    }

    private static void versionsInTheirOrder() {
        c.sentence("Terms 1", "a VERSION in it (0, 1 .. in their order)");
        EventKeeper x = new EventKeeper();
        int[] streams = {4, 9, 4, 4, 9, 0, 4};
        int[] versions = {0, 0, 1, 2, 1, 0, 3};
        for (int s : streams) {
            x.append(s, -1, 0, 0);
        }
        for (int place : below(streams.length)) {
            c.answers("event(" + place + ", 1)", versions[place], () -> x.event(place, 1));
        }
    }

    private static void eightKinds() {
        c.sentence("Terms 1", "a KIND (0..7)");
        EventKeeper x = new EventKeeper();
        for (int kind : below(8)) {
            c.answers("append of kind " + kind, kind, () -> x.append(5, -1, kind, 0));
            c.answers("event(" + kind + ", 2)", kind, () -> x.event(kind, 2));
        }
    }

    private static void valuesOf64Bits() {
        c.sentence("Terms 1", "a VALUE (64 bits)");
        EventKeeper x = new EventKeeper();
        long[] values = {MIN, MAX, -1, 0, 1, 1L << 31, 1L << 32, (1L << 32) - 1, -(1L << 32), 1L << 62};
        for (long v : values) {
            x.append(0, -1, 0, v);
        }
        for (int place : below(values.length)) {
            c.answers("value(" + place + ")", values[place], () -> x.value(place));
        }
    }

    private static void causeNone() {
        c.sentence("Terms 1", "a CAUSE: none");
        EventKeeper x = filled(2);
        for (int place : below(2)) {
            c.answers("event(" + place + ", 3)", -1, () -> x.event(place, 3));
            c.answers("event(" + place + ", 4)", -1, () -> x.event(place, 4));
        }
        EventKeeper y = emitting(2);
        y.advance(0, 2);
        y.crash();
        for (int i = 0; i < 3; i++) {
            y.append(0, -1, 7, 0);
        }
        c.answers("event(2, 3) where a caused one was lost", -1, () -> y.event(2, 3));
        c.answers("event(2, 4) where a caused one was lost", -1, () -> y.event(2, 4));
    }

    private static void causeOfEachProjection() {
        c.sentence("Terms 1", "a CAUSE: none, or a PROJECTION and a place");
        EventKeeper x = filled(2);
        for (int p : below(8)) {
            x.rule(p, 0, EMIT, CELL_0);
            x.advance(p, 2);
        }
        for (int p : below(8)) {
            c.answers("event(" + (2 + p) + ", 3)", p, () -> x.event(2 + p, 3));
            c.answers("event(" + (2 + p) + ", 4)", 1, () -> x.event(2 + p, 4));
        }
    }

    private static void causeAtTheLastPlaces() {
        c.sentence("Terms 1", "a CAUSE: none, or a PROJECTION and a place", "the last one that can be");
        EventKeeper x = filled(497);
        x.append(0, -1, 1, 6);
        x.append(0, -1, 1, 6);
        x.rule(7, 1, EMIT, CELL_0);
        c.answers("advance(7, 1000)", 500, () -> x.advance(7, 1000));
        c.answers("event(499, 3)", 7, () -> x.event(499, 3));
        c.answers("event(499, 4)", 498, () -> x.event(499, 4));
        x.rule(7, 1, EMIT, CELL_0);
        c.answers("advance(7, 1000) again", 500, () -> x.advance(7, 1000));
    }

    private static void durableAtTheLatestSync() {
        c.sentence("Terms 1", "DURABLE EVENTS are those that were in THE LOG at the latest sync()");
        EventKeeper x = emitting(2);
        c.answers("count(1, 0) before a sync", 0, () -> x.count(1, 0));
        x.sync();
        c.answers("count(1, 0)", 2, () -> x.count(1, 0));
        x.advance(0, 2);
        x.append(0, -1, 0, 0);
        c.answers("count(1, 0) with later ones", 2, () -> x.count(1, 0));
        x.crash();
        c.answers("count(1, 0) after a crash", 2, () -> x.count(1, 0));
        x.append(0, -1, 0, 0);
        c.answers("count(1, 0) with one in a lost one's place", 2, () -> x.count(1, 0));
        x.sync();
        c.answers("count(1, 0) at the latest of two", 3, () -> x.count(1, 0));
        c.answers("crash()", 3, x::crash);
        x.advance(0, 2);
        x.sync();
        c.answers("count(1, 0) with an emitted one", 4, () -> x.count(1, 0));
        c.answers("crash() with an emitted one", 4, x::crash);
    }

    private static void eightProjections() {
        c.sentence("Terms 2", "PROJECTIONS 0..7, each with RULES .. CELLS .. and a POSITION");
        for (int own : below(8)) {
            EventKeeper x = filled(3);
            x.rule(own, 0, ADD_ONE, CELL_0);
            x.advance(own, 2);
            for (int p : below(8)) {
                c.answers("count(3, " + p + ") of " + own, p == own ? 2 : 0, () -> x.count(3, p));
                c.answers("cell(" + p + ", 0) of " + own, p == own ? 2 : 0, () -> x.cell(p, 0));
                x.advance(p, 3);
                c.answers("cell(" + p + ", 0), rule of " + own, p == own ? 3 : 0, () -> x.cell(p, 0));
            }
        }
    }

    private static void oneRuleForEachKind() {
        c.sentence("Terms 2", "RULES, one for each KIND");
        for (int own : below(8)) {
            EventKeeper x = new EventKeeper();
            x.rule(0, own, ADD_ONE, BY_STREAM);
            for (int kind : below(8)) {
                x.append(kind, -1, kind, 0);
            }
            x.advance(0, 8);
            for (int k : below(8)) {
                c.answers("cell(0, " + k + ") of kind " + own, k == own ? 1 : 0, () -> x.cell(0, k));
            }
        }
        EventKeeper y = new EventKeeper();
        for (int kind : below(7)) {
            y.rule(1, kind, kind, BY_STREAM);
            y.append(kind, -1, kind, -5);
            y.append(kind, -1, kind, -9);
        }
        y.advance(1, 14);
        long[] due = {0, -14, -9, 2, 0, -9, 2};
        for (int k : below(7)) {
            c.answers("cell(1, " + k + "), a rule of each kind", due[k], () -> y.cell(1, k));
        }
    }

    private static void sixteenCells() {
        c.sentence("Terms 2", "16 CELLS");
        EventKeeper x = new EventKeeper();
        x.rule(0, 0, BECOME, BY_STREAM);
        for (int s : below(16)) {
            x.append(s, -1, 0, 100 + s);
        }
        x.advance(0, 16);
        for (int k : below(16)) {
            c.answers("cell(0, " + k + ")", 100 + k, () -> x.cell(0, k));
        }
        c.refusesIndex("cell(0, 16)", () -> x.cell(0, 16));
    }

    /** What cell 0 has after a value that it becomes, and one that it is given by another rule. */
    private static long after(long first, int what, long second) {
        EventKeeper x = new EventKeeper();
        x.rule(5, 3, BECOME, CELL_0);
        x.rule(5, 4, what, CELL_0);
        x.append(1, -1, 3, first);
        x.append(1, -1, 4, second);
        x.advance(5, 2);
        return x.cell(5, 0);
    }

    private static void cellsWrap() {
        c.sentence("Terms 2", "CELLS (64 bits, wrapping");
        c.answers("MAX, add 1", MIN, () -> after(MAX, ADD, 1));
        c.answers("MIN, add -1", MAX, () -> after(MIN, ADD, -1));
        c.answers("MAX, add MAX", -2, () -> after(MAX, ADD, MAX));
        c.answers("MIN, add MIN", 0, () -> after(MIN, ADD, MIN));
        c.answers("MAX, add one", MIN, () -> after(MAX, ADD_ONE, 0));
        c.answers("MAX, emit", MIN, () -> after(MAX, EMIT, 0));
        c.answers("-1, add one", 0, () -> after(-1, ADD_ONE, 0));
        c.answers("32 bits, add one", 1L << 32, () -> after((1L << 32) - 1, ADD_ONE, 0));
        c.answers("31 bits, add 1", 1L << 31, () -> after((1L << 31) - 1, ADD, 1));
    }

    private static void cellsAreZeroAtFirst() {
        c.sentence("Terms 2", "CELLS (.. 0 at first), and a POSITION (0 at first)");
        EventKeeper x = filled(1);
        for (int p : below(8)) {
            c.answers("count(3, " + p + ")", 0, () -> x.count(3, p));
            for (int k : below(16)) {
                c.answers("cell(" + p + ", " + k + ")", 0, () -> x.cell(p, k));
            }
        }
        EventKeeper y = new EventKeeper();
        y.rule(0, 0, GREATER, BY_STREAM);
        y.rule(0, 1, LESSER, BY_STREAM);
        y.append(1, -1, 0, -5);
        y.append(2, -1, 1, 5);
        y.advance(0, 2);
        c.answers("the greater one of 0 and -5", 0, () -> y.cell(0, 1));
        c.answers("the lesser one of 0 and 5", 0, () -> y.cell(0, 2));
    }

    private static void positionIsTheNextPlace() {
        c.sentence("Terms 2", "a POSITION .., the place of the EVENT that it takes next");
        EventKeeper x = filled(4);
        x.rule(0, 0, BECOME, CELL_0);
        for (int place : below(4)) {
            c.answers("count(3, 0) before " + place, place, () -> x.count(3, 0));
            x.advance(0, 1);
            c.answers("cell(0, 0) behind " + place, place, () -> x.cell(0, 0));
        }
        c.answers("count(3, 0) behind all", 4, () -> x.count(3, 0));
    }

    private static void whatARuleDoes() {
        c.sentence("Terms 2", "what it does (0 nothing, 1 add the VALUE, 2 become it, 3 add 1, ..)");
        c.answers("nothing", 5, () -> after(5, NOTHING, 7));
        c.answers("add", 12, () -> after(5, ADD, 7));
        c.answers("add a negative one", -2, () -> after(5, ADD, -7));
        c.answers("become", 7, () -> after(5, BECOME, 7));
        c.answers("become 0", 0, () -> after(5, BECOME, 0));
        c.answers("add 1", 6, () -> after(5, ADD_ONE, 7));
        c.answers("emit", 6, () -> after(5, EMIT, 7));
        c.sentence("Terms 2", "4 the greater one of both, 5 the lesser one");
        long[][] pairs = {{5, 7}, {7, 5}, {5, 5}, {-5, -7}, {-7, -5}, {-1, 1}, {1, -1}, {MIN, MAX}, {MAX, MIN},
            {MIN, 1}, {1, MIN}, {MAX, -2}, {-2, MAX}, {1L << 32, 1}, {1, 1L << 32}, {0, MIN}, {0, MAX}};
        for (long[] pair : pairs) {
            long greater = pair[0] > pair[1] ? pair[0] : pair[1];
            long lesser = pair[0] > pair[1] ? pair[1] : pair[0];
            String both = " one of " + pair[0] + " and " + pair[1];
            c.answers("the greater" + both, greater, () -> after(pair[0], GREATER, pair[1]));
            c.answers("the lesser" + both, lesser, () -> after(pair[0], LESSER, pair[1]));
        }
    }

    /** The only cell that an event of a stream and value changes, -1 if there is not just one. */
    private static int changedCell(int target, int stream, long v) {
        EventKeeper x = new EventKeeper();
        x.rule(2, 6, ADD_ONE, target);
        x.append(stream, -1, 6, v);
        x.advance(2, 1);
        int changed = -1;
        for (int k = 0; k < 16; k++) {
            if (x.cell(2, k) != 0) {
                if (changed != -1) {
                    return -1;
                }
                changed = k;
            }
        }
        return changed;
    }

    private static void cellOfTheStream() {
        c.sentence("Terms 2", "to which CELL (0 that of the STREAM");
        for (int s : below(16)) {
            c.answers("stream " + s, s, () -> changedCell(BY_STREAM, s, 3));
        }
    }

    private static final long[] VALUES = {0, 7, 15, 16, 31, 0x123, -1, -16, -15, MIN, MAX, (1L << 32) + 9, 8L << 32};
    private static final int[] LOWEST_4_BITS = {0, 7, 15, 0, 15, 3, 15, 0, 1, 0, 15, 9, 0};

    private static void cellOfTheValue() {
        c.sentence("Terms 2", "1 that of the lowest 4 bits of the VALUE");
        for (int i : below(VALUES.length)) {
            c.answers("value " + VALUES[i], LOWEST_4_BITS[i], () -> changedCell(BY_VALUE, 5, VALUES[i]));
        }
    }

    private static void cellZero() {
        c.sentence("Terms 2", "2 CELL 0");
        c.answers("stream 15, value 15", 0, () -> changedCell(CELL_0, 15, 15));
        c.answers("stream 2, value 1", 0, () -> changedCell(CELL_0, 2, 1));
    }

    /** An object whose projection 5 has taken what makes cell 0 so much, and then an event that emits. */
    private static EventKeeper emittedFrom(long before, long v) {
        EventKeeper x = new EventKeeper();
        x.rule(5, 3, BECOME, CELL_0);
        x.rule(5, 4, EMIT, CELL_0);
        x.append(1, -1, 3, before);
        x.append(1, -1, 4, v);
        x.advance(5, 2);
        return x;
    }

    private static void emitIfEven() {
        c.sentence("Terms 2", "the CELL gets 1 more, and if it is even then, an EVENT is appended");
        long[] odd = {0, 2, -2, -4, MIN, MAX - 1, 1L << 32};
        for (long before : odd) {
            c.answers("odd behind " + before, 2, () -> emittedFrom(before, 6).count(0, 0));
            c.answers("cell 0 behind " + before, before + 1, () -> emittedFrom(before, 6).cell(5, 0));
        }
        long[] even = {1, 3, -1, -3, MAX, MIN + 1, (1L << 32) - 1};
        for (long before : even) {
            c.answers("even behind " + before, 3, () -> emittedFrom(before, 6).count(0, 0));
            c.answers("cell 0 behind " + before, before + 1, () -> emittedFrom(before, 6).cell(5, 0));
        }
    }

    private static void emittedStream() {
        c.sentence("Terms 2", "its STREAM the lowest 4 bits of the VALUE");
        for (int i : below(VALUES.length)) {
            c.answers("value " + VALUES[i], LOWEST_4_BITS[i], () -> emittedFrom(1, VALUES[i]).event(2, 0));
        }
    }

    private static void emittedKind() {
        c.sentence("Terms 2", "its KIND 7");
        c.answers("event(2, 2)", 7, () -> emittedFrom(1, 6).event(2, 2));
    }

    private static void emittedValue() {
        c.sentence("Terms 2", "its VALUE what the CELL has");
        c.answers("behind 1", 2, () -> emittedFrom(1, 6).value(2));
        c.answers("behind -1", 0, () -> emittedFrom(-1, 6).value(2));
        c.answers("behind -3", -2, () -> emittedFrom(-3, 6).value(2));
        c.answers("behind MAX", MIN, () -> emittedFrom(MAX, 6).value(2));
        c.answers("behind 2^32 - 1", 1L << 32, () -> emittedFrom((1L << 32) - 1, 6).value(2));
    }

    private static void emittedVersion() {
        c.sentence("Terms 2", "with the next VERSION of its STREAM");
        c.answers("in an empty stream", 0, () -> emittedFrom(1, 6).event(2, 1));
        c.answers("in the stream of its cause", 2, () -> emittedFrom(1, 1).event(2, 1));
    }

    private static void emittedIsAnEventAsOthersAre() {
        c.sentence("Terms 2", "an EVENT as others are");
        EventKeeper x = emittedFrom(1, 6);
        c.answers("find(6, 0)", 2, () -> x.find(6, 0));
        c.answers("count(2, 6)", 1, () -> x.count(2, 6));
        c.refusesState("append(6, 0, ..)", () -> x.append(6, 0, 0, 0));
        c.answers("append(6, 1, ..)", 3, () -> x.append(6, 1, 0, 0));
        x.filter(0, 6, 128);
        c.answers("next(0)", 2, () -> x.next(0));
        c.answers("acknowledge(0, 2)", 3, () -> x.acknowledge(0, 2));
        x.rule(1, 7, ADD, BY_STREAM);
        c.answers("advance(1, 9)", 4, () -> x.advance(1, 9));
        c.answers("cell(1, 6)", 2, () -> x.cell(1, 6));
        EventKeeper y = new EventKeeper();
        y.rule(0, 7, EMIT, CELL_0);
        y.append(0, -1, 7, -1);
        y.append(0, -1, 7, -2);
        c.answers("its own emitted one is taken", 3, () -> y.advance(0, 1000));
        y.append(0, -1, 7, -3);
        c.answers("and what that emits", 2, () -> y.advance(0, 1000));
        c.answers("value(4)", 4, () -> y.value(4));
        c.answers("event(4, 4)", 3, () -> y.event(4, 4));
    }

    private static void notTwiceForACause() {
        c.sentence("Terms 2", "but not if an EVENT with this CAUSE is in THE LOG");
        EventKeeper x = emitting(4);
        c.answers("advance(0, 9)", 6, () -> x.advance(0, 9));
        x.rule(0, 0, EMIT, CELL_0);
        c.answers("advance(0, 9) once more", 6, () -> x.advance(0, 9));
        c.answers("count(0, 0)", 6, () -> x.count(0, 0));
        c.answers("count(5, 0)", 2, () -> x.count(5, 0));
        x.sync();
        x.crash();
        c.answers("advance(0, 9) after a crash", 6, () -> x.advance(0, 9));
        c.answers("count(5, 0) after a crash", 2, () -> x.count(5, 0));
    }

    private static void notTwiceWhateverTheRule() {
        c.sentence("Terms 2", "an EVENT with this CAUSE", "whatever made the CELL even");
        EventKeeper x = new EventKeeper();
        x.rule(0, 0, EMIT, CELL_0);
        x.append(3, -1, 1, 5);
        x.append(3, -1, 0, 5);
        x.append(3, -1, 0, 5);
        x.advance(0, 3);
        c.answers("count(5, 0)", 1, () -> x.count(5, 0));
        x.rule(0, 0, EMIT, BY_STREAM);
        x.advance(0, 3);
        c.answers("count(5, 0), another cell", 1, () -> x.count(5, 0));
        x.rule(0, 1, BECOME, BY_STREAM);
        x.advance(0, 2);
        c.answers("count(5, 0), another place", 2, () -> x.count(5, 0));
        c.answers("value(4), another value", 6, () -> x.value(4));
        x.advance(0, 1);
        c.answers("count(5, 0), odd at the first one's", 2, () -> x.count(5, 0));
    }

    private static void countedAllTheSame() {
        c.sentence("Terms 2", "(the CELL has 1 more all the same)");
        EventKeeper x = emitting(4);
        x.advance(0, 4);
        x.rule(0, 0, EMIT, CELL_0);
        for (int taken : below(4)) {
            c.answers("advance(0, 1)", 1, () -> x.advance(0, 1));
            c.answers("cell(0, 0) behind " + taken, taken + 1, () -> x.cell(0, 0));
        }
    }

    private static void causeOfAnotherProjection() {
        c.sentence("Terms 2", "its CAUSE this PROJECTION");
        EventKeeper x = emitting(2);
        x.advance(0, 2);
        for (int p = 1; p < 8; p++) {
            int own = p;
            x.rule(own, 0, EMIT, CELL_0);
            x.advance(own, 2);
            c.answers("count(5, " + own + ")", 1, () -> x.count(5, own));
            c.answers("event(" + (2 + own) + ", 3)", own, () -> x.event(2 + own, 3));
        }
    }

    private static void notTwiceForEachProjection() {
        c.sentence("Terms 2", "but not if an EVENT with this CAUSE is in THE LOG", "nor if others have the same place");
        EventKeeper x = filled(2);
        for (int times : below(2)) {
            for (int p : below(8)) {
                x.rule(p, 0, EMIT, CELL_0);
                x.advance(p, 2);
            }
            for (int p : below(8)) {
                c.answers("count(5, " + p + "), time " + times, 1, () -> x.count(5, p));
            }
        }
        c.answers("count(0, 0)", 10, () -> x.count(0, 0));
    }

    private static void causeOfAnotherPlace() {
        c.sentence("Terms 2", "its CAUSE .. the place of the EVENT");
        EventKeeper x = emitting(8);
        x.advance(0, 8);
        for (int i : below(4)) {
            c.answers("event(" + (8 + i) + ", 4)", 2 * i + 1, () -> x.event(8 + i, 4));
        }
    }

    private static void causeIsFreeWhenLost() {
        c.sentence("Terms 2", "if an EVENT with this CAUSE is in THE LOG", "not if it was, and is lost");
        EventKeeper x = emitting(4);
        x.advance(0, 2);
        x.sync();
        x.advance(0, 9);
        c.answers("count(5, 0)", 2, () -> x.count(5, 0));
        x.crash();
        c.answers("count(5, 0) of the durable ones", 1, () -> x.count(5, 0));
        c.answers("advance(0, 9)", 6, () -> x.advance(0, 9));
        c.answers("count(5, 0) once more", 2, () -> x.count(5, 0));
        c.answers("event(5, 4)", 3, () -> x.event(5, 4));
        EventKeeper y = emitting(2);
        y.advance(0, 2);
        y.crash();
        y.append(0, -1, 0, 9);
        y.append(0, -1, 0, 9);
        y.advance(0, 2);
        c.answers("count(5, 0) of another event at the same place", 1, () -> y.count(5, 0));
        c.answers("event(2, 0)", 9, () -> y.event(2, 0));
    }

    private static void causeOfAnotherIsLost() {
        c.sentence("Terms 2", "if an EVENT with this CAUSE is in THE LOG", "though another's is lost");
        for (int kept : below(2)) {
            int lost = 1 - kept;
            EventKeeper x = filled(2);
            x.rule(kept, 0, EMIT, CELL_0);
            x.rule(lost, 0, EMIT, CELL_0);
            x.advance(kept, 2);
            x.sync();
            x.advance(lost, 2);
            c.answers("crash()", 3, x::crash);
            x.advance(kept, 2);
            c.answers("count(0, 0), that of " + kept + " is kept", 3, () -> x.count(0, 0));
            x.advance(lost, 2);
            c.answers("count(0, 0), that of " + lost + " was lost", 4, () -> x.count(0, 0));
            c.answers("event(3, 3)", lost, () -> x.event(3, 3));
        }
    }

    private static void staysAtAFullLog() {
        c.sentence("Terms 2", "the PROJECTION stays before this EVENT, its CELLS too");
        EventKeeper x = emitting(500);
        c.answers("advance(0, 1000)", 1, () -> x.advance(0, 1000));
        c.answers("count(3, 0)", 1, () -> x.count(3, 0));
        c.answers("cell(0, 0)", 1, () -> x.cell(0, 0));
        c.answers("advance(0, 1)", 0, () -> x.advance(0, 1));
        c.answers("count(3, 0)", 1, () -> x.count(3, 0));
        c.answers("cell(0, 0)", 1, () -> x.cell(0, 0));
        c.answers("count(0, 0)", 500, () -> x.count(0, 0));
        c.answers("count(5, 0)", 0, () -> x.count(5, 0));
        c.answers("save(0)", 1, () -> x.save(0));
    }

    private static void staysUntilThereIsRoom() {
        c.sentence("Terms 2", "If THE LOG is full", "no longer than that");
        EventKeeper x = emitting(2);
        x.save(0);
        x.sync();
        for (int i = 0; i < 498; i++) {
            x.append(0, -1, 1, 0);
        }
        c.answers("advance(0, 9)", 1, () -> x.advance(0, 9));
        c.answers("crash()", 2, x::crash);
        c.answers("advance(0, 9)", 3, () -> x.advance(0, 9));
        c.answers("event(2, 4)", 1, () -> x.event(2, 4));
        c.answers("cell(0, 0)", 2, () -> x.cell(0, 0));
    }

    private static void staysOnlyIfItIsToBeAppended() {
        c.sentence("Terms 2", "If THE LOG is full and it is to be appended");
        EventKeeper x = emitting(498);
        c.answers("advance(0, 1000) fills the log", 5, () -> x.advance(0, 1000));
        x.rule(0, 0, EMIT, CELL_0);
        c.answers("what has its event needs no room", 5, () -> x.advance(0, 1000));
        c.answers("cell(0, 0)", 5, () -> x.cell(0, 0));
        c.answers("count(3, 0)", 5, () -> x.count(3, 0));
        x.rule(1, 0, EMIT, CELL_0);
        c.answers("what has another projection's needs it", 1, () -> x.advance(1, 1000));
        c.answers("count(0, 0)", 500, () -> x.count(0, 0));
    }

    private static void staysOnlyIfEven() {
        c.sentence("Terms 2", "If THE LOG is full and it is to be appended", "not if the CELL is odd");
        EventKeeper x = new EventKeeper();
        x.rule(0, 0, EMIT, BY_STREAM);
        for (int i = 0; i < 500; i++) {
            x.append(i % 16, -1, 0, 0);
        }
        c.answers("advance(0, 1000)", 16, () -> x.advance(0, 1000));
        c.answers("cell(0, 0)", 1, () -> x.cell(0, 0));
        c.answers("cell(0, 15)", 1, () -> x.cell(0, 15));
    }

    private static void staysAlone() {
        c.sentence("Terms 2", "the PROJECTION stays", "others and other RULES go on");
        EventKeeper x = emitting(499);
        x.append(3, -1, 1, 0);
        x.rule(0, 1, EMIT, BY_STREAM);
        x.rule(1, 0, ADD_ONE, CELL_0);
        c.answers("advance(0, 1000)", 1, () -> x.advance(0, 1000));
        c.answers("advance(1, 1000)", 500, () -> x.advance(1, 1000));
        c.answers("cell(1, 0)", 499, () -> x.cell(1, 0));
        c.answers("advance(2, 1000)", 500, () -> x.advance(2, 1000));
        x.rule(0, 0, NOTHING, CELL_0);
        c.answers("advance(0, 1000) with another rule", 500, () -> x.advance(0, 1000));
        c.answers("cell(0, 3)", 1, () -> x.cell(0, 3));
    }

    private static void savedAsItWas() {
        c.sentence("Terms 2", "SAVED: a PROJECTION'S CELLS and POSITION as they were when save() was done");
        EventKeeper x = new EventKeeper();
        x.rule(0, 0, ADD, BY_VALUE);
        for (int i = 0; i < 32; i++) {
            x.append(0, -1, 0, 100 * 16 + i % 16);
        }
        x.sync();
        x.advance(0, 16);
        x.save(0);
        for (int i = 0; i < 2; i++) {
            c.answers("advance(0, 99)", 16, () -> x.advance(0, 99));
            c.answers("cell(0, 9)", 2 * 1609, () -> x.cell(0, 9));
            x.crash();
            c.answers("count(3, 0)", 16, () -> x.count(3, 0));
            for (int k : below(16)) {
                c.answers("cell(0, " + k + ")", 1600 + k, () -> x.cell(0, k));
            }
        }
    }

    private static void eightSubscriptions() {
        c.sentence("Terms 3", "SUBSCRIPTIONS 0..7, each with a FILTER .. and a POSITION");
        for (int own : below(8)) {
            EventKeeper x = filled(3);
            x.filter(own, -1, 254);
            c.answers("acknowledge(" + own + ", 1)", 2, () -> x.acknowledge(own, 1));
            for (int s : below(8)) {
                c.answers("next(" + s + ") of " + own, s == own ? -1 : 0, () -> x.next(s));
                c.answers("count(4, " + s + ") of " + own, s == own ? 2 : 0, () -> x.count(4, s));
            }
        }
    }

    private static void streamOrAll() {
        c.sentence("Terms 3", "a STREAM or all");
        EventKeeper x = new EventKeeper();
        for (int s : below(16)) {
            x.append(s, -1, 0, 0);
        }
        for (int s : below(16)) {
            x.filter(0, s, 255);
            c.answers("next(0) of stream " + s, s, () -> x.next(0));
            x.acknowledge(0, s);
            c.answers("next(0) behind it", -1, () -> x.next(0));
        }
        x.filter(0, -1, 255);
        for (int s : below(16)) {
            c.answers("next(0) of all", s, () -> x.next(0));
            x.acknowledge(0, s);
        }
    }

    private static void someKinds() {
        c.sentence("Terms 3", "and some KINDS");
        EventKeeper x = new EventKeeper();
        for (int kind : below(8)) {
            x.append(2, -1, kind, 0);
        }
        for (int kind : below(8)) {
            x.filter(0, 2, 1 << kind);
            c.answers("next(0) of kind " + kind, kind, () -> x.next(0));
            x.acknowledge(0, kind);
            c.answers("next(0) behind it", -1, () -> x.next(0));
            x.filter(0, -1, 255 - (1 << kind));
            c.answers("next(0) of all but " + kind, kind == 0 ? 1 : 0, () -> x.next(0));
            if (kind > 0) {
                x.acknowledge(0, kind - 1);
                c.answers("next(0) behind " + (kind - 1), kind == 7 ? -1 : kind + 1, () -> x.next(0));
            }
        }
        x.filter(0, -1, 0);
        c.answers("next(0) of no kind", -1, () -> x.next(0));
    }

    private static void firstFromThePositionOn() {
        c.sentence("Terms 3", "what comes next is the first EVENT from that on that the FILTER lets through");
        EventKeeper x = new EventKeeper();
        int[] kinds = {1, 0, 1, 1, 0, 1};
        for (int kind : kinds) {
            x.append(0, -1, kind, 0);
        }
        x.filter(0, 0, 2);
        int[] due = {2, 2, 3, 5, 5, -1};
        c.answers("next(0) at 0", 0, () -> x.next(0));
        for (int place : below(6)) {
            x.acknowledge(0, place);
            c.answers("next(0) at " + (place + 1), due[place], () -> x.next(0));
        }
        x.append(0, -1, 0, 0);
        c.answers("next(0), one more that is not let through", -1, () -> x.next(0));
        x.append(0, -1, 1, 0);
        c.answers("next(0), one more that is", 7, () -> x.next(0));
    }

    private static void acknowledgedBySync() {
        c.sentence("Terms 3", "What is ACKNOWLEDGED by a sync() is SAFE");
        EventKeeper x = filled(5);
        x.acknowledge(0, 1);
        x.acknowledge(1, 4);
        x.sync();
        x.acknowledge(0, 3);
        x.acknowledge(2, 3);
        x.crash();
        c.answers("count(4, 0), more behind the sync", 2, () -> x.count(4, 0));
        c.answers("count(4, 1), all before the sync", 5, () -> x.count(4, 1));
        c.answers("count(4, 2), all behind the sync", 0, () -> x.count(4, 2));
    }
}
