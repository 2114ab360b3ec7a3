/**
 * An event store in memory: a log of events in streams, projections that fold the log and may emit
 * into it, subscriptions that follow it, and a crash that leaves only what was synchronized.
 */
public final class EventKeeper {
    private static final int LOG_LIMIT = 500;
    private static final int STREAMS = 16;
    private static final int KINDS = 8;
    private static final int ALL_KINDS = 255;
    private static final int PROJECTIONS = 8;
    private static final int SUBSCRIPTIONS = 8;
    private static final int CELLS = 16;
    private static final int MOST_TAKEN = 1000;
    private static final int LOWEST_4_BITS = 15;

    private static final int ANY_SIZE = -1;
    private static final int ALL_STREAMS = -1;
    private static final int NONE = -1;

    private static final int DO_NOTHING = 0;
    private static final int ADD_VALUE = 1;
    private static final int BECOME_VALUE = 2;
    private static final int ADD_ONE = 3;
    private static final int KEEP_GREATER = 4;
    private static final int KEEP_LESSER = 5;
    private static final int EMIT = 6;
    private static final int EMITTED_KIND = 7;

    private static final int CELL_OF_STREAM = 0;
    private static final int CELL_OF_VALUE = 1;
    private static final int CELL_ZERO = 2;

    private final Log log;
    private final Projection[] projections;
    private final Subscription[] subscriptions;

    public EventKeeper() {
        log = new Log();
        projections = new Projection[PROJECTIONS];
        for (int i = 0; i < PROJECTIONS; i++) {
            projections[i] = new Projection(i);
        }
        subscriptions = new Subscription[SUBSCRIPTIONS];
        for (int i = 0; i < SUBSCRIPTIONS; i++) {
            subscriptions[i] = new Subscription();
        }
    }

    public int append(int stream, int expected, int kind, long v)
            throws IllegalArgumentException, IllegalStateException, IndexOutOfBoundsException {
        checkStream(stream);
        checkArgument(expected >= ANY_SIZE);
        checkKind(kind);
        if (expected != ANY_SIZE && expected != log.streamSizes[stream]) {
            throw new IllegalStateException("the stream has another number of events");
        }
        if (log.isFull()) {
            throw new IndexOutOfBoundsException("the log is full");
        }
        return log.put(stream, kind, v);
    }

    public void rule(int projection, int kind, int what, int cell) throws IllegalArgumentException {
        checkProjection(projection);
        checkKind(kind);
        checkArgument(what >= DO_NOTHING && what <= EMIT);
        checkArgument(cell >= CELL_OF_STREAM && cell <= CELL_ZERO);
        projections[projection].setRule(kind, what, cell);
    }

    public int advance(int projection, int n) throws IllegalArgumentException {
        checkProjection(projection);
        checkArgument(n >= 0 && n <= MOST_TAKEN);
        for (int taken = 0; taken < n; taken++) {
            if (!projections[projection].takeOne(log)) {
                return taken;
            }
        }
        return n;
    }

    public int save(int projection) throws IllegalArgumentException {
        checkProjection(projection);
        return projections[projection].keep(log.size);
    }

    public long cell(int projection, int k) throws IllegalArgumentException, IndexOutOfBoundsException {
        checkProjection(projection);
        if (k < 0 || k >= CELLS) {
            throw new IndexOutOfBoundsException("there is no such cell");
        }
        return projections[projection].cells[k];
    }

    public void filter(int subscription, int stream, int kinds) throws IllegalArgumentException {
        checkSubscription(subscription);
        checkArgument(stream >= ALL_STREAMS && stream < STREAMS);
        checkArgument(kinds >= 0 && kinds <= ALL_KINDS);
        subscriptions[subscription].setFilter(stream, kinds);
    }

    public int next(int subscription) throws IllegalArgumentException {
        checkSubscription(subscription);
        return subscriptions[subscription].firstWaiting(log);
    }

    public int acknowledge(int subscription, int place)
            throws IllegalArgumentException, IndexOutOfBoundsException {
        checkSubscription(subscription);
        checkPlace(place);
        return subscriptions[subscription].passBehind(place);
    }

    public int sync() {
        log.durableSize = log.size;
        for (int i = 0; i < SUBSCRIPTIONS; i++) {
            subscriptions[i].makeSafe();
        }
        return log.size;
    }

    public int crash() {
        log.dropUndurable();
        for (int i = 0; i < PROJECTIONS; i++) {
            projections[i].recover(log.size);
        }
        for (int i = 0; i < SUBSCRIPTIONS; i++) {
            subscriptions[i].recover(log.size);
        }
        return log.size;
    }

    public int event(int place, int what) throws IllegalArgumentException, IndexOutOfBoundsException {
        checkArgument(what >= 0 && what <= 4);
        checkPlace(place);
        switch (what) {
            case 0:
                return log.streams[place];
            case 1:
                return log.versions[place];
            case 2:
                return log.kinds[place];
            case 3:
                return log.causeProjections[place];
            default:
                return log.causePlaces[place];
        }
    }

    public long value(int place) throws IndexOutOfBoundsException {
        checkPlace(place);
        return log.values[place];
    }

    public int find(int stream, int version) throws IllegalArgumentException, IndexOutOfBoundsException {
        checkStream(stream);
        int place = log.placeOf(stream, version);
        if (place == NONE) {
            throw new IndexOutOfBoundsException("the stream has no such version");
        }
        return place;
    }

    public int count(int what, int k) throws IllegalArgumentException {
        switch (what) {
            case 0:
                return log.size;
            case 1:
                return log.durableSize;
            case 2:
                checkStream(k);
                return log.streamSizes[k];
            case 3:
                checkProjection(k);
                return projections[k].position;
            case 4:
                checkSubscription(k);
                return subscriptions[k].position;
            case 5:
                checkProjection(k);
                return log.emittedSizes[k];
            default:
                throw new IllegalArgumentException("there is nothing such to count");
        }
    }

    private static void checkArgument(boolean right) {
        if (!right) {
            throw new IllegalArgumentException("an argument is out of its range");
        }
    }

    private static void checkStream(int stream) {
        checkArgument(stream >= 0 && stream < STREAMS);
    }

    private static void checkKind(int kind) {
        checkArgument(kind >= 0 && kind < KINDS);
    }

    private static void checkProjection(int projection) {
        checkArgument(projection >= 0 && projection < PROJECTIONS);
    }

    private static void checkSubscription(int subscription) {
        checkArgument(subscription >= 0 && subscription < SUBSCRIPTIONS);
    }

    private void checkPlace(int place) {
        if (place < 0 || place >= log.size) {
            throw new IndexOutOfBoundsException("there is no event at this place");
        }
    }

    /** The events, a row of each property, so that an append makes no object. */
    private static final class Log {
        final int[] streams;
        final int[] versions;
        final int[] kinds;
        final long[] values;
        final int[] causeProjections;
        final int[] causePlaces;
        /** For each event a bit for each projection that has emitted because of it: no search for a cause. */
        final int[] emitters;
        final int[] streamSizes;
        final int[] emittedSizes;
        int size;
        int durableSize;

        Log() {
            streams = new int[LOG_LIMIT];
            versions = new int[LOG_LIMIT];
            kinds = new int[LOG_LIMIT];
            values = new long[LOG_LIMIT];
            causeProjections = new int[LOG_LIMIT];
            causePlaces = new int[LOG_LIMIT];
            emitters = new int[LOG_LIMIT];
            streamSizes = new int[STREAMS];
            emittedSizes = new int[PROJECTIONS];
        }

        boolean isFull() {
            return size >= LOG_LIMIT;
        }

        /** Only for a log that is not full. */
        int put(int stream, int kind, long v) {
            int place = size;
            streams[place] = stream;
            versions[place] = streamSizes[stream];
            kinds[place] = kind;
            values[place] = v;
            causeProjections[place] = NONE;
            causePlaces[place] = NONE;
            streamSizes[stream]++;
            size++;
            return place;
        }

        /** Only for a log that is not full, and for a cause that no event has. */
        void putEmitted(int projection, int causePlace, long v) {
            int place = put((int) (values[causePlace] & LOWEST_4_BITS), EMITTED_KIND, v);
            causeProjections[place] = projection;
            causePlaces[place] = causePlace;
            emitters[causePlace] |= 1 << projection;
            emittedSizes[projection]++;
        }

        boolean hasEmitted(int projection, int causePlace) {
            return (emitters[causePlace] & (1 << projection)) != 0;
        }

        void dropUndurable() {
            for (int place = durableSize; place < size; place++) {
                streamSizes[streams[place]]--;
                if (causeProjections[place] != NONE) {
                    forgetCause(place);
                }
            }
            size = durableSize;
        }

        /**
         * What caused it may outlive the crash, and must then be free to emit again. If it does not,
         * no bit is left for the next event at its place: all it caused stood behind it, and is lost too.
         */
        private void forgetCause(int place) {
            int projection = causeProjections[place];
            emitters[causePlaces[place]] &= ~(1 << projection);
            emittedSizes[projection]--;
        }

        int placeOf(int stream, int version) {
            for (int place = 0; place < size; place++) {
                if (streams[place] == stream && versions[place] == version) {
                    return place;
                }
            }
            return NONE;
        }
    }

    private static final class Projection {
        private final int number;
        private final int[] actions;
        private final int[] targets;
        final long[] cells;
        int position;
        private final long[] savedCells;
        private int savedPosition;
        /** How many events the log had at the save, NONE if nothing is saved. */
        private int savedLogSize;

        Projection(int itsNumber) {
            number = itsNumber;
            actions = new int[KINDS];
            targets = new int[KINDS];
            cells = new long[CELLS];
            savedCells = new long[CELLS];
            savedLogSize = NONE;
        }

        void setRule(int kind, int action, int target) {
            actions[kind] = action;
            targets[kind] = target;
            startOver();
        }

        /** False if there is no event to take, or the projection has to stay before it. */
        boolean takeOne(Log log) {
            if (position >= log.size) {
                return false;
            }
            int action = actions[log.kinds[position]];
            int k = targetCell(log);
            if (action == EMIT) {
                if (!countAndEmit(log, k)) {
                    return false;
                }
            } else {
                cells[k] = folded(action, cells[k], log.values[position]);
            }
            position++;
            return true;
        }

        private int targetCell(Log log) {
            switch (targets[log.kinds[position]]) {
                case CELL_OF_STREAM:
                    return log.streams[position];
                case CELL_OF_VALUE:
                    return (int) (log.values[position] & LOWEST_4_BITS);
                default:
                    return 0;
            }
        }

        private static long folded(int action, long held, long v) {
            switch (action) {
                case ADD_VALUE:
                    return held + v;
                case BECOME_VALUE:
                    return v;
                case ADD_ONE:
                    return held + 1;
                case KEEP_GREATER:
                    return Math.max(held, v);
                case KEEP_LESSER:
                    return Math.min(held, v);
                default:
                    return held;
            }
        }

        /** False, and nothing changed, if an event is to be appended and the log is full. */
        private boolean countAndEmit(Log log, int k) {
            long counted = cells[k] + 1;
            boolean even = (counted & 1) == 0;
            if (even && !log.hasEmitted(number, position)) {
                if (log.isFull()) {
                    return false;
                }
                log.putEmitted(number, position, counted);
            }
            cells[k] = counted;
            return true;
        }

        int keep(int logSize) {
            System.arraycopy(cells, 0, savedCells, 0, CELLS);
            savedPosition = position;
            savedLogSize = logSize;
            return position;
        }

        /** What was saved from a longer log may have folded events that are lost. */
        void recover(int logSize) {
            if (savedLogSize == NONE || savedLogSize > logSize) {
                startOver();
            } else {
                System.arraycopy(savedCells, 0, cells, 0, CELLS);
                position = savedPosition;
            }
        }

        private void startOver() {
            for (int k = 0; k < CELLS; k++) {
                cells[k] = 0;
            }
            position = 0;
            savedLogSize = NONE;
        }
    }

    private static final class Subscription {
        private int onlyStream;
        private int kindBits;
        int position;
        /** 0 also stands for none: a crash treats both alike. */
        private int safePosition;

        Subscription() {
            onlyStream = ALL_STREAMS;
            kindBits = ALL_KINDS;
        }

        void setFilter(int stream, int kinds) {
            onlyStream = stream;
            kindBits = kinds;
            position = 0;
            safePosition = 0;
        }

        int firstWaiting(Log log) {
            for (int place = position; place < log.size; place++) {
                if (letsThrough(log.streams[place], log.kinds[place])) {
                    return place;
                }
            }
            return NONE;
        }

        private boolean letsThrough(int stream, int kind) {
            boolean rightStream = onlyStream == ALL_STREAMS || onlyStream == stream;
            return rightStream && (kindBits & (1 << kind)) != 0;
        }

        int passBehind(int place) {
            position = Math.max(position, place + 1);
            return position;
        }

        void makeSafe() {
            safePosition = position;
        }

        void recover(int logSize) {
            position = Math.min(safePosition, logSize);
        }
    }
}
