/** Promises 1 to 15: a test of its own for each sentence, with the edges it names and wrong inputs. */
public final class EventKeeperPromisesTest extends Given {
    public static void main(String[] args) {
        c.test(EventKeeperPromisesTest::calls512);
        c.test(EventKeeperPromisesTest::newHasNoEvents);
        c.test(EventKeeperPromisesTest::newRulesDoNothing);
        c.test(EventKeeperPromisesTest::newFiltersLetAllThrough);
        c.test(EventKeeperPromisesTest::appendAnswersThePlace);
        c.test(EventKeeperPromisesTest::appendAsExpected);
        c.test(EventKeeperPromisesTest::appendToAny);
        c.test(EventKeeperPromisesTest::appendRefusesArguments);
        c.test(EventKeeperPromisesTest::appendRefusesTheStream);
        c.test(EventKeeperPromisesTest::appendToAFullLog);
        c.test(EventKeeperPromisesTest::ruleOfAProjection);
        c.test(EventKeeperPromisesTest::ruleOfOtherKindsStay);
        c.test(EventKeeperPromisesTest::ruleStartsOver);
        c.test(EventKeeperPromisesTest::ruleLeavesNothingSaved);
        c.test(EventKeeperPromisesTest::ruleRefuses);
        c.test(EventKeeperPromisesTest::advanceUpToN);
        c.test(EventKeeperPromisesTest::advanceNone);
        c.test(EventKeeperPromisesTest::advanceTheMost);
        c.test(EventKeeperPromisesTest::advanceNoMore);
        c.test(EventKeeperPromisesTest::advanceStays);
        c.test(EventKeeperPromisesTest::advanceTakesWhatItEmits);
        c.test(EventKeeperPromisesTest::advanceRefuses);
        c.test(EventKeeperPromisesTest::saveAnswersThePosition);
        c.test(EventKeeperPromisesTest::saveRefuses);
        c.test(EventKeeperPromisesTest::cellOfAProjection);
        c.test(EventKeeperPromisesTest::cellRefuses);
        c.test(EventKeeperPromisesTest::filterOfAStream);
        c.test(EventKeeperPromisesTest::filterOfKinds);
        c.test(EventKeeperPromisesTest::filterStartsOver);
        c.test(EventKeeperPromisesTest::filterLeavesNoneSafe);
        c.test(EventKeeperPromisesTest::filterRefuses);
        c.test(EventKeeperPromisesTest::nextAnswersThePlace);
        c.test(EventKeeperPromisesTest::nextNone);
        c.test(EventKeeperPromisesTest::nextRefuses);
        c.test(EventKeeperPromisesTest::acknowledgeUpToAPlace);
        c.test(EventKeeperPromisesTest::acknowledgeWhateverTheFilter);
        c.test(EventKeeperPromisesTest::acknowledgeALesserOne);
        c.test(EventKeeperPromisesTest::acknowledgeRefuses);
        c.test(EventKeeperPromisesTest::acknowledgeNoEvent);
        c.test(EventKeeperPromisesTest::syncMakesDurable);
        c.test(EventKeeperPromisesTest::syncMakesSafe);
        c.test(EventKeeperPromisesTest::syncAnswersTheEvents);
        c.test(EventKeeperPromisesTest::crashAnswersTheEvents);
        c.test(EventKeeperPromisesTest::eventTellsEach);
        c.test(EventKeeperPromisesTest::eventRefuses);
        c.test(EventKeeperPromisesTest::eventNone);
        c.test(EventKeeperPromisesTest::valueOfAnEvent);
        c.test(EventKeeperPromisesTest::valueNone);
        c.test(EventKeeperPromisesTest::findAVersion);
        c.test(EventKeeperPromisesTest::findRefuses);
        c.test(EventKeeperPromisesTest::findNone);
        c.test(EventKeeperPromisesTest::countEach);
        c.test(EventKeeperPromisesTest::countLooksNotAtK);
        c.test(EventKeeperPromisesTest::countRefusesWhat);
        c.test(EventKeeperPromisesTest::countRefusesK);
        c.end();
    }

    private static void calls512() {
        c.sentence("What it is", "An object is used for at most 512 calls after it has been made");
        EventKeeper x = filled(500);
        x.rule(0, 0, ADD_ONE, CELL_0);
        x.filter(0, 0, 1);
        c.answers("call 503, advance", 500, () -> x.advance(0, 1000));
        c.answers("call 504, save", 500, () -> x.save(0));
        c.answers("call 505, acknowledge", 500, () -> x.acknowledge(0, 499));
        c.answers("call 506, sync", 500, x::sync);
        c.answers("call 507, crash", 500, x::crash);
        c.answers("call 508, cell", 500, () -> x.cell(0, 0));
        c.answers("call 509, next", -1, () -> x.next(0));
        c.answers("call 510, event", 499, () -> x.event(499, 1));
        c.answers("call 511, find", 499, () -> x.find(0, 499));
        c.answers("call 512, value", 499, () -> x.value(499));
    }

    private static void newHasNoEvents() {
        c.sentence("Promise 1", "No EVENTS");
        EventKeeper x = new EventKeeper();
        c.answers("count(0, 0)", 0, () -> x.count(0, 0));
        c.answers("count(1, 0)", 0, () -> x.count(1, 0));
        for (int s : below(16)) {
            c.answers("count(2, " + s + ")", 0, () -> x.count(2, s));
            c.refusesIndex("find(" + s + ", 0)", () -> x.find(s, 0));
        }
        for (int k : below(8)) {
            c.answers("count(5, " + k + ")", 0, () -> x.count(5, k));
            c.answers("next(" + k + ")", -1, () -> x.next(k));
            c.answers("advance(" + k + ", 1000)", 0, () -> x.advance(k, 1000));
        }
        c.refusesIndex("value(0)", () -> x.value(0));
        c.refusesIndex("event(0, 0)", () -> x.event(0, 0));
        EventKeeper y = new EventKeeper();
        y.append(0, 0, 0, 0);
        c.answers("count(0, 0) beside another object", 0, () -> x.count(0, 0));
    }

    private static void newRulesDoNothing() {
        c.sentence("Promise 1", "all RULES do nothing");
        EventKeeper x = new EventKeeper();
        for (int kind : below(8)) {
            x.append(kind * 2 + 1, 0, kind, 5);
            x.append(kind * 2, 0, kind, -6);
        }
        for (int p : below(8)) {
            c.answers("advance(" + p + ", 1000)", 16, () -> x.advance(p, 1000));
            for (int k : below(16)) {
                c.answers("cell(" + p + ", " + k + ")", 0, () -> x.cell(p, k));
            }
        }
        c.answers("count(0, 0)", 16, () -> x.count(0, 0));
    }

    private static void newFiltersLetAllThrough() {
        c.sentence("Promise 1", "FILTERS let all through");
        for (int s : below(8)) {
            EventKeeper x = new EventKeeper();
            for (int i : below(128)) {
                x.append(i % 16, -1, i / 16, 0);
                c.answers("next(" + s + ") of stream " + i % 16 + ", kind " + i / 16, i, () -> x.next(s));
                x.acknowledge(s, i);
            }
        }
    }

    private static void appendAnswersThePlace() {
        c.sentence("Promise 2", "An EVENT is appended: its place");
        EventKeeper x = new EventKeeper();
        c.answers("append(0, 0, 0, 7)", 0, () -> x.append(0, 0, 0, 7));
        c.answers("append(15, -1, 7, MIN)", 1, () -> x.append(15, -1, 7, MIN));
        c.answers("append(0, 1, 3, MAX)", 2, () -> x.append(0, 1, 3, MAX));
        c.answers("event(2, 0)", 0, () -> x.event(2, 0));
        c.answers("event(2, 1)", 1, () -> x.event(2, 1));
        c.answers("event(2, 2)", 3, () -> x.event(2, 2));
        c.answers("value(2)", MAX, () -> x.value(2));
        c.answers("event(1, 0)", 15, () -> x.event(1, 0));
        c.answers("event(1, 2)", 7, () -> x.event(1, 2));
        c.answers("value(1)", MIN, () -> x.value(1));
    }

    private static void appendAsExpected() {
        c.sentence("Promise 2", "expected: how many EVENTS the STREAM has");
        EventKeeper x = new EventKeeper();
        c.answers("append(0, 0, ..), an empty one", 0, () -> x.append(0, 0, 0, 0));
        c.answers("append(0, 1, ..)", 1, () -> x.append(0, 1, 0, 0));
        c.answers("append(5, 0, ..), another empty one", 2, () -> x.append(5, 0, 0, 0));
        c.answers("append(0, 2, ..)", 3, () -> x.append(0, 2, 0, 0));
        EventKeeper y = filled(499);
        c.answers("append(0, 499, ..), the most", 499, () -> y.append(0, 499, 0, 0));
    }

    private static void appendToAny() {
        c.sentence("Promise 2", "or -1 (any)");
        EventKeeper x = filled(2);
        c.answers("append(0, -1, ..) to 2", 2, () -> x.append(0, -1, 0, 0));
        c.answers("append(1, -1, ..) to none", 3, () -> x.append(1, -1, 0, 0));
    }

    private static void appendRefusesArguments() {
        c.sentence("Promise 2", "IllegalArgumentException: stream, expected is below -1, kind");
        EventKeeper x = filled(2);
        for (int s : OUTSIDE_16) {
            c.refusesArgument("append, stream " + s, () -> x.append(s, -1, 0, 0));
        }
        for (int expected : new int[] {-2, -3, -256, Integer.MIN_VALUE}) {
            c.refusesArgument("append, expected " + expected, () -> x.append(0, expected, 0, 0));
        }
        for (int kind : OUTSIDE_8) {
            c.refusesArgument("append, kind " + kind, () -> x.append(0, -1, kind, 0));
        }
        c.answers("count(0, 0)", 2, () -> x.count(0, 0));
    }

    private static void appendRefusesTheStream() {
        c.sentence("Promise 2", "IllegalStateException: the STREAM has not so many");
        EventKeeper x = filled(3);
        for (int expected : new int[] {0, 1, 2, 4, 5, 500, 501, Integer.MAX_VALUE}) {
            c.refusesState("append(0, " + expected + ", ..) to 3", () -> x.append(0, expected, 0, 0));
        }
        c.refusesState("append(1, 1, ..) to none", () -> x.append(1, 1, 0, 0));
        c.refusesState("append(1, 3, ..), as many as another has", () -> x.append(1, 3, 0, 0));
        c.answers("append(0, 3, ..)", 3, () -> x.append(0, 3, 0, 0));
    }

    private static void appendToAFullLog() {
        c.sentence("Promise 2", "IndexOutOfBoundsException: THE LOG is full");
        EventKeeper x = filled(500);
        c.refusesIndex("append(0, -1, ..)", () -> x.append(0, -1, 0, 0));
        c.refusesIndex("append(0, 500, ..)", () -> x.append(0, 500, 0, 0));
        c.refusesIndex("append(15, 0, ..)", () -> x.append(15, 0, 7, 0));
        c.answers("count(0, 0)", 500, () -> x.count(0, 0));
        c.answers("crash()", 0, x::crash);
        c.answers("append(0, 0, ..) where there is room again", 0, () -> x.append(0, 0, 0, 0));
    }

    private static void ruleOfAProjection() {
        c.sentence("Promise 3", "A RULE of a PROJECTION");
        EventKeeper x = filled(3);
        c.passes("rule(7, 0, ADD_ONE, CELL_0)", () -> x.rule(7, 0, ADD_ONE, CELL_0));
        x.advance(7, 9);
        c.answers("cell(7, 0)", 3, () -> x.cell(7, 0));
        c.passes("rule(7, 0, BECOME, BY_VALUE), in its place", () -> x.rule(7, 0, BECOME, BY_VALUE));
        x.advance(7, 9);
        c.answers("cell(7, 0)", 0, () -> x.cell(7, 0));
        c.answers("cell(7, 2)", 2, () -> x.cell(7, 2));
        c.passes("rule(7, 0, NOTHING, BY_VALUE)", () -> x.rule(7, 0, NOTHING, BY_VALUE));
        x.advance(7, 9);
        c.answers("cell(7, 2)", 0, () -> x.cell(7, 2));
        for (int what : below(7)) {
            for (int cell : below(3)) {
                c.passes("rule(0, 7, " + what + ", " + cell + ")", () -> x.rule(0, 7, what, cell));
            }
        }
    }

    private static void ruleOfOtherKindsStay() {
        c.sentence("Promise 3", "(those of other KINDS stay)");
        EventKeeper x = new EventKeeper();
        for (int kind : below(8)) {
            x.rule(0, kind, ADD_ONE, BY_STREAM);
            x.append(kind, -1, kind, 0);
        }
        x.rule(0, 3, NOTHING, CELL_0);
        x.advance(0, 8);
        for (int k : below(8)) {
            c.answers("cell(0, " + k + ")", k == 3 ? 0 : 1, () -> x.cell(0, k));
        }
    }

    private static void ruleStartsOver() {
        c.sentence("Promise 3", "whose CELLS and POSITION are 0 then");
        EventKeeper x = new EventKeeper();
        for (int p : below(2)) {
            x.rule(p, 0, ADD_ONE, BY_STREAM);
        }
        for (int s : below(16)) {
            x.append(s, -1, 0, 0);
        }
        x.advance(0, 16);
        x.advance(1, 16);
        x.rule(0, 0, ADD_ONE, BY_STREAM);
        c.answers("count(3, 0)", 0, () -> x.count(3, 0));
        c.answers("count(3, 1) of another", 16, () -> x.count(3, 1));
        for (int k : below(16)) {
            c.answers("cell(0, " + k + ")", 0, () -> x.cell(0, k));
            c.answers("cell(1, " + k + ") of another", 1, () -> x.cell(1, k));
        }
        c.answers("advance(0, 99)", 16, () -> x.advance(0, 99));
        x.rule(0, 5, NOTHING, CELL_0);
        c.answers("count(3, 0), a rule that no event needs", 0, () -> x.count(3, 0));
        c.answers("cell(0, 4), a rule that no event needs", 0, () -> x.cell(0, 4));
    }

    private static void ruleLeavesNothingSaved() {
        c.sentence("Promise 3", "and nothing SAVED");
        EventKeeper x = filled(3);
        x.sync();
        for (int p : below(2)) {
            x.rule(p, 0, ADD_ONE, CELL_0);
            x.advance(p, 2);
            x.save(p);
        }
        x.rule(0, 0, ADD_ONE, CELL_0);
        x.advance(0, 1);
        x.crash();
        c.answers("count(3, 0)", 0, () -> x.count(3, 0));
        c.answers("cell(0, 0)", 0, () -> x.cell(0, 0));
        c.answers("count(3, 1) of another", 2, () -> x.count(3, 1));
        c.answers("cell(1, 0) of another", 2, () -> x.cell(1, 0));
    }

    private static void ruleRefuses() {
        c.sentence("Promise 3", "IllegalArgumentException: projection, kind, what (0..6), cell (0..2)");
        EventKeeper x = new EventKeeper();
        for (int outside : OUTSIDE_8) {
            c.refusesArgumentOf("rule, projection " + outside, () -> x.rule(outside, 0, 0, 0));
            c.refusesArgumentOf("rule, kind " + outside, () -> x.rule(0, outside, 0, 0));
        }
        for (int what : new int[] {-1, 7, 8, Integer.MIN_VALUE, Integer.MAX_VALUE}) {
            c.refusesArgumentOf("rule, what " + what, () -> x.rule(0, 0, what, 0));
        }
        for (int cell : new int[] {-1, 3, 4, 16, Integer.MIN_VALUE, Integer.MAX_VALUE}) {
            c.refusesArgumentOf("rule, cell " + cell, () -> x.rule(0, 0, 0, cell));
        }
    }

    private static void advanceUpToN() {
        c.sentence("Promise 4", "A PROJECTION takes up to n EVENTS, one after the other: how many");
        EventKeeper x = filled(5);
        x.rule(3, 0, BECOME, CELL_0);
        c.answers("advance(3, 1)", 1, () -> x.advance(3, 1));
        c.answers("cell(3, 0)", 0, () -> x.cell(3, 0));
        c.answers("advance(3, 2)", 2, () -> x.advance(3, 2));
        c.answers("cell(3, 0)", 2, () -> x.cell(3, 0));
        c.answers("count(3, 3)", 3, () -> x.count(3, 3));
        c.answers("advance(3, 2), the last ones", 2, () -> x.advance(3, 2));
        c.answers("cell(3, 0)", 4, () -> x.cell(3, 0));
    }

    private static void advanceNone() {
        c.sentence("Promise 4", "n is not 0..1000", "0 is");
        EventKeeper x = filled(2);
        c.answers("advance(0, 0)", 0, () -> x.advance(0, 0));
        c.answers("count(3, 0)", 0, () -> x.count(3, 0));
    }

    private static void advanceTheMost() {
        c.sentence("Promise 4", "n is not 0..1000", "1000 is");
        EventKeeper x = filled(500);
        c.answers("advance(0, 1000)", 500, () -> x.advance(0, 1000));
        c.answers("advance(1, 500)", 500, () -> x.advance(1, 500));
        c.answers("advance(2, 499)", 499, () -> x.advance(2, 499));
        c.answers("count(3, 0)", 500, () -> x.count(3, 0));
        c.answers("count(3, 1)", 500, () -> x.count(3, 1));
        c.answers("count(3, 2)", 499, () -> x.count(3, 2));
    }

    private static void advanceNoMore() {
        c.sentence("Promise 4", "(fewer if there are no more");
        EventKeeper x = filled(3);
        c.answers("advance(0, 4)", 3, () -> x.advance(0, 4));
        c.answers("advance(0, 1)", 0, () -> x.advance(0, 1));
        c.answers("count(3, 0)", 3, () -> x.count(3, 0));
        x.append(0, -1, 0, 0);
        c.answers("advance(0, 9), one more", 1, () -> x.advance(0, 9));
        c.answers("advance of no events", 0, () -> new EventKeeper().advance(0, 1));
    }

    private static void advanceStays() {
        c.sentence("Promise 4", "or it stays; that EVENT is none of them)");
        EventKeeper x = emitting(498);
        c.answers("advance(0, 4)", 4, () -> x.advance(0, 4));
        c.answers("advance(0, 9)", 1, () -> x.advance(0, 9));
        c.answers("advance(0, 9)", 0, () -> x.advance(0, 9));
        c.answers("count(3, 0)", 5, () -> x.count(3, 0));
    }

    private static void advanceTakesWhatItEmits() {
        c.sentence("Promise 4", "A PROJECTION takes up to n EVENTS", "those that it emits too");
        EventKeeper x = emitting(2);
        x.rule(0, 7, ADD_ONE, BY_VALUE);
        c.answers("advance(0, 2), not more than n", 2, () -> x.advance(0, 2));
        c.answers("count(0, 0)", 3, () -> x.count(0, 0));
        c.answers("advance(0, 2)", 1, () -> x.advance(0, 2));
        c.answers("cell(0, 2)", 1, () -> x.cell(0, 2));
        EventKeeper y = emitting(2);
        c.answers("advance(0, 3), in one go", 3, () -> y.advance(0, 3));
    }

    private static void advanceRefuses() {
        c.sentence("Promise 4", "IllegalArgumentException: projection, n is not 0..1000");
        EventKeeper x = filled(3);
        for (int p : OUTSIDE_8) {
            c.refusesArgument("advance, projection " + p, () -> x.advance(p, 1));
        }
        for (int n : new int[] {-1, 1001, Integer.MIN_VALUE, Integer.MAX_VALUE}) {
            c.refusesArgument("advance, n " + n, () -> x.advance(0, n));
        }
        c.answers("count(3, 0)", 0, () -> x.count(3, 0));
    }

    private static void saveAnswersThePosition() {
        c.sentence("Promise 5", "A PROJECTION is SAVED: its POSITION");
        EventKeeper x = filled(4);
        x.rule(0, 0, ADD, CELL_0);
        c.answers("save(0) at the start", 0, () -> x.save(0));
        x.advance(0, 3);
        c.answers("save(0)", 3, () -> x.save(0));
        c.answers("save(7) of another", 0, () -> x.save(7));
        c.answers("cell(0, 0) stays", 3, () -> x.cell(0, 0));
        c.answers("count(3, 0) stays", 3, () -> x.count(3, 0));
        x.sync();
        x.advance(0, 9);
        x.crash();
        c.answers("count(3, 0)", 3, () -> x.count(3, 0));
        c.answers("cell(0, 0)", 3, () -> x.cell(0, 0));
        x.advance(0, 9);
        c.answers("save(0) at the end", 4, () -> x.save(0));
        x.crash();
        c.answers("count(3, 0)", 4, () -> x.count(3, 0));
        c.answers("cell(0, 0)", 6, () -> x.cell(0, 0));
    }

    private static void saveRefuses() {
        c.sentence("Promise 5", "IllegalArgumentException: projection");
        EventKeeper x = filled(1);
        for (int p : OUTSIDE_8) {
            c.refusesArgument("save(" + p + ")", () -> x.save(p));
        }
    }

    private static void cellOfAProjection() {
        c.sentence("Promise 6", "A CELL of a PROJECTION");
        EventKeeper x = new EventKeeper();
        x.rule(7, 0, BECOME, BY_VALUE);
        x.rule(0, 0, LESSER, BY_VALUE);
        for (int i = 0; i < 16; i++) {
            x.append(0, -1, 0, MIN + i);
        }
        x.advance(7, 16);
        x.advance(0, 8);
        for (int k : below(16)) {
            c.answers("cell(7, " + k + ")", MIN + k, () -> x.cell(7, k));
            c.answers("cell(0, " + k + ")", k < 8 ? MIN + k : 0, () -> x.cell(0, k));
        }
    }

    private static void cellRefuses() {
        EventKeeper x = filled(1);
        c.sentence("Promise 6", "IllegalArgumentException: projection");
        for (int p : OUTSIDE_8) {
            c.refusesArgument("cell(" + p + ", 0)", () -> x.cell(p, 0));
        }
        c.sentence("Promise 6", "IndexOutOfBoundsException: there is none");
        for (int k : OUTSIDE_16) {
            c.refusesIndex("cell(7, " + k + ")", () -> x.cell(7, k));
        }
    }

    /** Streams 1, 2, 1, 15 and kinds 0, 1, 1, 7. */
    private static EventKeeper mixed() {
        EventKeeper x = new EventKeeper();
        x.append(1, -1, 0, 0);
        x.append(2, -1, 1, 0);
        x.append(1, -1, 1, 0);
        x.append(15, -1, 7, 0);
        return x;
    }

    private static void filterOfAStream() {
        c.sentence("Promise 7", "The FILTER of a SUBSCRIPTION (stream -1: all");
        EventKeeper x = mixed();
        c.passes("filter(3, 2, 255)", () -> x.filter(3, 2, 255));
        c.answers("next(3)", 1, () -> x.next(3));
        c.passes("filter(3, 15, 255)", () -> x.filter(3, 15, 255));
        c.answers("next(3)", 3, () -> x.next(3));
        c.passes("filter(3, 0, 255)", () -> x.filter(3, 0, 255));
        c.answers("next(3)", -1, () -> x.next(3));
        c.passes("filter(3, -1, 255)", () -> x.filter(3, -1, 255));
        c.answers("next(3)", 0, () -> x.next(3));
    }

    private static void filterOfKinds() {
        c.sentence("Promise 7", "kinds: bit by bit");
        EventKeeper x = mixed();
        c.passes("filter(3, -1, 2)", () -> x.filter(3, -1, 2));
        c.answers("next(3)", 1, () -> x.next(3));
        c.passes("filter(3, 1, 2)", () -> x.filter(3, 1, 2));
        c.answers("next(3), stream and kind", 2, () -> x.next(3));
        c.passes("filter(3, -1, 128)", () -> x.filter(3, -1, 128));
        c.answers("next(3), the highest bit", 3, () -> x.next(3));
        c.passes("filter(3, -1, 1)", () -> x.filter(3, -1, 1));
        c.answers("next(3), the lowest bit", 0, () -> x.next(3));
        c.passes("filter(3, -1, 0)", () -> x.filter(3, -1, 0));
        c.answers("next(3), no bit", -1, () -> x.next(3));
        c.passes("filter(3, -1, 255)", () -> x.filter(3, -1, 255));
        c.answers("next(3), all bits", 0, () -> x.next(3));
        c.passes("filter(3, -1, 4 + 8)", () -> x.filter(3, -1, 4 + 8));
        c.answers("next(3), bits of no event", -1, () -> x.next(3));
        c.passes("filter(3, 15, 2)", () -> x.filter(3, 15, 2));
        c.answers("next(3), stream but not kind", -1, () -> x.next(3));
    }

    private static void filterStartsOver() {
        c.sentence("Promise 7", "its POSITION is 0 then");
        EventKeeper x = mixed();
        x.acknowledge(3, 2);
        x.acknowledge(4, 2);
        x.filter(3, -1, 255);
        c.answers("count(4, 3)", 0, () -> x.count(4, 3));
        c.answers("next(3)", 0, () -> x.next(3));
        c.answers("count(4, 4) of another", 3, () -> x.count(4, 4));
    }

    private static void filterLeavesNoneSafe() {
        c.sentence("Promise 7", "none is SAFE");
        EventKeeper x = mixed();
        x.acknowledge(3, 2);
        x.acknowledge(4, 2);
        x.sync();
        x.filter(3, -1, 255);
        x.acknowledge(3, 0);
        x.crash();
        c.answers("count(4, 3)", 0, () -> x.count(4, 3));
        c.answers("count(4, 4) of another", 3, () -> x.count(4, 4));
    }

    private static void filterRefuses() {
        c.sentence("Promise 7", "IllegalArgumentException: subscription, stream, kinds is not 0..255");
        EventKeeper x = mixed();
        for (int s : OUTSIDE_8) {
            c.refusesArgumentOf("filter, subscription " + s, () -> x.filter(s, 0, 0));
        }
        for (int s : new int[] {-2, -16, 16, 17, 256, Integer.MIN_VALUE, Integer.MAX_VALUE}) {
            c.refusesArgumentOf("filter, stream " + s, () -> x.filter(3, s, 0));
        }
        for (int kinds : new int[] {-1, 256, 257, -256, Integer.MIN_VALUE, Integer.MAX_VALUE}) {
            c.refusesArgumentOf("filter, kinds " + kinds, () -> x.filter(3, 0, kinds));
        }
    }

    private static void nextAnswersThePlace() {
        c.sentence("Promise 8", "The place of what comes next");
        EventKeeper x = mixed();
        c.answers("next(7)", 0, () -> x.next(7));
        c.answers("next(7) changes nothing", 0, () -> x.next(7));
        c.answers("count(4, 7)", 0, () -> x.count(4, 7));
        x.acknowledge(7, 2);
        c.answers("next(7), the last", 3, () -> x.next(7));
        x.filter(7, 1, 2);
        c.answers("next(7), let through", 2, () -> x.next(7));
    }

    private static void nextNone() {
        c.sentence("Promise 8", "-1 if there is none");
        c.answers("next(0) of no events", -1, () -> new EventKeeper().next(0));
        EventKeeper x = mixed();
        x.filter(0, 3, 255);
        c.answers("next(0), none let through", -1, () -> x.next(0));
        x.acknowledge(1, 3);
        c.answers("next(1), all acknowledged", -1, () -> x.next(1));
        x.filter(2, 2, 2);
        x.acknowledge(2, 1);
        c.answers("next(2), none let through from its position on", -1, () -> x.next(2));
    }

    private static void nextRefuses() {
        c.sentence("Promise 8", "IllegalArgumentException: subscription");
        EventKeeper x = mixed();
        for (int s : OUTSIDE_8) {
            c.refusesArgument("next(" + s + ")", () -> x.next(s));
        }
    }

    private static void acknowledgeUpToAPlace() {
        c.sentence("Promise 9", "Up to a place .. all is ACKNOWLEDGED: the POSITION is behind it .. : its POSITION");
        EventKeeper x = filled(5);
        c.answers("acknowledge(0, 0), the first", 1, () -> x.acknowledge(0, 0));
        c.answers("acknowledge(0, 1), one more", 2, () -> x.acknowledge(0, 1));
        c.answers("acknowledge(0, 4), the last, others between", 5, () -> x.acknowledge(0, 4));
        c.answers("count(4, 0)", 5, () -> x.count(4, 0));
        c.answers("next(0)", -1, () -> x.next(0));
        c.answers("count(4, 1) of another", 0, () -> x.count(4, 1));
    }

    private static void acknowledgeWhateverTheFilter() {
        c.sentence("Promise 9", "(of any EVENT, whatever the FILTER)");
        EventKeeper x = filled(5);
        x.filter(1, 9, 255);
        c.answers("acknowledge(1, 2), another stream", 3, () -> x.acknowledge(1, 2));
        x.filter(1, -1, 2);
        c.answers("acknowledge(1, 3), another kind", 4, () -> x.acknowledge(1, 3));
        x.filter(1, -1, 0);
        c.answers("acknowledge(1, 4), no kind", 5, () -> x.acknowledge(1, 4));
    }

    private static void acknowledgeALesserOne() {
        c.sentence("Promise 9", "(a lesser one than that it has changes nothing)");
        EventKeeper x = filled(5);
        x.acknowledge(0, 3);
        for (int place : below(4)) {
            c.answers("acknowledge(0, " + place + ")", 4, () -> x.acknowledge(0, place));
            c.answers("count(4, 0)", 4, () -> x.count(4, 0));
        }
        c.answers("next(0)", 4, () -> x.next(0));
        c.answers("acknowledge(0, 4), a greater one", 5, () -> x.acknowledge(0, 4));
    }

    private static void acknowledgeRefuses() {
        c.sentence("Promise 9", "IllegalArgumentException: subscription");
        EventKeeper x = filled(2);
        for (int s : OUTSIDE_8) {
            c.refusesArgument("acknowledge(" + s + ", 0)", () -> x.acknowledge(s, 0));
        }
    }

    private static void acknowledgeNoEvent() {
        c.sentence("Promise 9", "IndexOutOfBoundsException: there is no EVENT at this place");
        EventKeeper x = filled(5);
        for (int place : new int[] {-1, 5, 6, 500, Integer.MIN_VALUE, Integer.MAX_VALUE}) {
            c.refusesIndex("acknowledge(1, " + place + ")", () -> x.acknowledge(1, place));
        }
        x.acknowledge(1, 4);
        c.refusesIndex("acknowledge(1, -1), lesser than it has", () -> x.acknowledge(1, -1));
        c.refusesIndex("acknowledge of no events", () -> new EventKeeper().acknowledge(0, 0));
        c.refusesIndex("acknowledge, place -1 of no events", () -> new EventKeeper().acknowledge(0, -1));
    }

    private static void syncMakesDurable() {
        c.sentence("Promise 10", "All EVENTS are DURABLE");
        EventKeeper x = filled(3);
        x.sync();
        c.answers("count(1, 0)", 3, () -> x.count(1, 0));
        x.append(0, -1, 0, 0);
        x.sync();
        c.answers("count(1, 0)", 4, () -> x.count(1, 0));
        x.crash();
        c.answers("count(0, 0)", 4, () -> x.count(0, 0));
    }

    private static void syncMakesSafe() {
        c.sentence("Promise 10", "POSITIONS of SUBSCRIPTIONS SAFE");
        EventKeeper x = filled(8);
        for (int s : below(8)) {
            x.acknowledge(s, 7 - s);
        }
        x.sync();
        x.crash();
        for (int s : below(8)) {
            c.answers("count(4, " + s + ")", 8 - s, () -> x.count(4, s));
        }
        x.acknowledge(3, 6);
        x.sync();
        x.crash();
        c.answers("count(4, 3) by a later one", 7, () -> x.count(4, 3));
        x.filter(3, -1, 255);
        x.sync();
        x.acknowledge(3, 6);
        x.crash();
        c.answers("count(4, 3) by a sync at 0", 0, () -> x.count(4, 3));
    }

    private static void syncAnswersTheEvents() {
        c.sentence("Promise 10", "how many EVENTS");
        EventKeeper x = new EventKeeper();
        c.answers("sync() of none", 0, x::sync);
        x.append(0, -1, 0, 0);
        c.answers("sync() of one", 1, x::sync);
        c.answers("sync() of none more", 1, x::sync);
        EventKeeper y = filled(500);
        c.answers("sync() of all that there can be", 500, y::sync);
    }

    private static void crashAnswersTheEvents() {
        c.sentence("Promise 11", "A CRASH: how many EVENTS there are");
        c.answers("crash() of none", 0, () -> new EventKeeper().crash());
        EventKeeper x = filled(2);
        c.answers("crash(), none durable", 0, x::crash);
        x.append(0, -1, 0, 0);
        x.append(0, -1, 0, 0);
        x.sync();
        x.append(0, -1, 0, 0);
        c.answers("crash(), two durable", 2, x::crash);
        c.answers("crash() again", 2, x::crash);
    }

    /** Four events of which the last is emitted by projection 5, caused by the one before it. */
    private static EventKeeper caused() {
        EventKeeper x = new EventKeeper();
        x.append(9, -1, 3, 6);
        x.append(9, -1, 4, 6);
        x.append(8, -1, 3, 6);
        x.rule(5, 3, EMIT, CELL_0);
        x.advance(5, 9);
        return x;
    }

    private static void eventTellsEach() {
        c.sentence("Promise 12",
                "what 0: STREAM, 1: VERSION, 2: KIND, 3: the PROJECTION, 4: the place of its CAUSE (-1 none)");
        EventKeeper x = caused();
        int[][] due = {{9, 0, 3, -1, -1}, {9, 1, 4, -1, -1}, {8, 0, 3, -1, -1}, {6, 0, 7, 5, 2}};
        for (int place : below(4)) {
            for (int what : below(5)) {
                c.answers("event(" + place + ", " + what + ")", due[place][what], () -> x.event(place, what));
            }
        }
    }

    private static void eventRefuses() {
        c.sentence("Promise 12", "IllegalArgumentException: what");
        EventKeeper x = caused();
        for (int what : new int[] {-1, 5, 6, Integer.MIN_VALUE, Integer.MAX_VALUE}) {
            c.refusesArgument("event(0, " + what + ")", () -> x.event(0, what));
        }
    }

    private static void eventNone() {
        c.sentence("Promise 12", "IndexOutOfBoundsException: there is none");
        EventKeeper x = caused();
        for (int place : new int[] {-1, 4, 5, 499, 500, Integer.MIN_VALUE, Integer.MAX_VALUE}) {
            for (int what : below(5)) {
                c.refusesIndex("event(" + place + ", " + what + ")", () -> x.event(place, what));
            }
        }
        c.refusesIndex("event(0, 0) of no events", () -> new EventKeeper().event(0, 0));
    }

    private static void valueOfAnEvent() {
        c.sentence("Promise 13", "Its VALUE");
        EventKeeper x = caused();
        x.append(0, -1, 0, MIN);
        x.append(1, -1, 0, MAX);
        c.answers("value(0)", 6, () -> x.value(0));
        c.answers("value(3)", 2, () -> x.value(3));
        c.answers("value(4)", MIN, () -> x.value(4));
        c.answers("value(5)", MAX, () -> x.value(5));
    }

    private static void valueNone() {
        c.sentence("Promise 13", "IndexOutOfBoundsException: there is none");
        EventKeeper x = caused();
        for (int place : new int[] {-1, 4, 5, 499, 500, Integer.MIN_VALUE, Integer.MAX_VALUE}) {
            c.refusesIndex("value(" + place + ")", () -> x.value(place));
        }
        c.refusesIndex("value(0) of no events", () -> new EventKeeper().value(0));
    }

    private static void findAVersion() {
        c.sentence("Promise 14", "The place of a VERSION of a STREAM");
        EventKeeper x = new EventKeeper();
        int[] streams = {0, 15, 0, 15, 7, 0};
        for (int s : streams) {
            x.append(s, -1, 0, 0);
        }
        c.answers("find(0, 0)", 0, () -> x.find(0, 0));
        c.answers("find(0, 1)", 2, () -> x.find(0, 1));
        c.answers("find(0, 2), the last", 5, () -> x.find(0, 2));
        c.answers("find(15, 0)", 1, () -> x.find(15, 0));
        c.answers("find(15, 1)", 3, () -> x.find(15, 1));
        c.answers("find(7, 0)", 4, () -> x.find(7, 0));
    }

    private static void findRefuses() {
        c.sentence("Promise 14", "IllegalArgumentException: stream");
        EventKeeper x = filled(2);
        for (int s : OUTSIDE_16) {
            c.refusesArgument("find(" + s + ", 0)", () -> x.find(s, 0));
        }
    }

    private static void findNone() {
        c.sentence("Promise 14", "IndexOutOfBoundsException: there is none");
        EventKeeper x = filled(2);
        x.append(1, -1, 0, 0);
        for (int v : new int[] {-1, 2, 3, 500, Integer.MIN_VALUE, Integer.MAX_VALUE}) {
            c.refusesIndex("find(0, " + v + ")", () -> x.find(0, v));
        }
        c.refusesIndex("find(1, 1), a version of another", () -> x.find(1, 1));
        c.refusesIndex("find(7, 0), an empty stream", () -> x.find(7, 0));
        c.refusesIndex("find(0, 0) of no events", () -> new EventKeeper().find(0, 0));
    }

    private static EventKeeper counted() {
        EventKeeper x = new EventKeeper();
        x.rule(7, 0, EMIT, CELL_0);
        for (int s : new int[] {15, 15, 0, 15}) {
            x.append(s, -1, 0, 2);
        }
        x.sync();
        x.advance(7, 3);
        x.acknowledge(7, 0);
        x.acknowledge(0, 1);
        x.advance(0, 4);
        return x;
    }

    private static void countEach() {
        c.sentence("Promise 15", "What 0: EVENTS; 1: DURABLE ones; .. 5: EVENTS with a CAUSE of PROJECTION k");
        EventKeeper x = counted();
        c.answers("count(0, 0)", 5, () -> x.count(0, 0));
        c.answers("count(1, 0)", 4, () -> x.count(1, 0));
        c.answers("count(2, 15)", 3, () -> x.count(2, 15));
        c.answers("count(2, 0)", 1, () -> x.count(2, 0));
        c.answers("count(2, 2)", 1, () -> x.count(2, 2));
        c.answers("count(2, 8)", 0, () -> x.count(2, 8));
        c.answers("count(3, 7)", 3, () -> x.count(3, 7));
        c.answers("count(3, 0)", 4, () -> x.count(3, 0));
        c.answers("count(4, 7)", 1, () -> x.count(4, 7));
        c.answers("count(4, 0)", 2, () -> x.count(4, 0));
        c.answers("count(5, 7)", 1, () -> x.count(5, 7));
        c.answers("count(5, 0)", 0, () -> x.count(5, 0));
    }

    private static void countLooksNotAtK() {
        c.sentence("Promise 15", "(0, 1: k is not looked at)");
        EventKeeper x = counted();
        for (int k : OUTSIDE_16) {
            c.answers("count(0, " + k + ")", 5, () -> x.count(0, k));
            c.answers("count(1, " + k + ")", 4, () -> x.count(1, k));
        }
    }

    private static void countRefusesWhat() {
        c.sentence("Promise 15", "IllegalArgumentException for others");
        EventKeeper x = counted();
        for (int what : new int[] {-1, 6, 7, 8, Integer.MIN_VALUE, Integer.MAX_VALUE}) {
            c.refusesArgument("count(" + what + ", 0)", () -> x.count(what, 0));
        }
    }

    private static void countRefusesK() {
        c.sentence("Promise 15", "IllegalArgumentException for .. k");
        EventKeeper x = counted();
        for (int k : OUTSIDE_16) {
            c.refusesArgument("count(2, " + k + ")", () -> x.count(2, k));
        }
        for (int k : OUTSIDE_8) {
            c.refusesArgument("count(3, " + k + ")", () -> x.count(3, k));
            c.refusesArgument("count(4, " + k + ")", () -> x.count(4, k));
            c.refusesArgument("count(5, " + k + ")", () -> x.count(5, k));
        }
        for (int k : below(8)) {
            c.answers("count(2, " + (8 + k) + ") is a stream's", k == 7 ? 3 : 0, () -> x.count(2, 8 + k));
        }
    }
}
