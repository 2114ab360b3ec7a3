/** What the tests by hand share: names for the document's numbers, and objects to begin with. */
abstract class Given {
    static final int NOTHING = 0;
    static final int ADD = 1;
    static final int BECOME = 2;
    static final int ADD_ONE = 3;
    static final int GREATER = 4;
    static final int LESSER = 5;
    static final int EMIT = 6;

    static final int BY_STREAM = 0;
    static final int BY_VALUE = 1;
    static final int CELL_0 = 2;

    static final long MIN = Long.MIN_VALUE;
    static final long MAX = Long.MAX_VALUE;

    /** Just outside, far outside, and what a mask of the lowest bits would let through. */
    static final int[] OUTSIDE_8 = {-1, 8, 9, 16, 256, -8, Integer.MIN_VALUE, Integer.MAX_VALUE};
    static final int[] OUTSIDE_16 = {-1, 16, 17, 32, 256, -16, Integer.MIN_VALUE, Integer.MAX_VALUE};

    static final Checks c = new Checks();

    /** 0, 1 .. n - 1. */
    static int[] below(int n) {
        int[] all = new int[n];
        for (int i = 0; i < n; i++) {
            all[i] = i;
        }
        return all;
    }

    /** So many events of kind 0 in stream 0, the value of each its place: as many calls. */
    static EventKeeper filled(int events) {
        EventKeeper x = new EventKeeper();
        for (int i = 0; i < events; i++) {
            x.append(0, -1, 0, i);
        }
        return x;
    }

    /** Projection 0 counts each event of kind 0 in cell 0 and emits; so many of them are in stream 3. */
    static EventKeeper emitting(int events) {
        EventKeeper x = new EventKeeper();
        x.rule(0, 0, EMIT, CELL_0);
        for (int i = 0; i < events; i++) {
            x.append(3, -1, 0, i);
        }
        return x;
    }
}
