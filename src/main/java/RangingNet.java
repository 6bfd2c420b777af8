/**
 * A simulator of two-way ranging between nodes whose clocks drift and whose counters wrap.
 *
 * <p>The face checks arguments and throws; {@code State} simulates; {@code History} serves undo; {@code Table} is the
 * one place that touches arrays of numbers.
 */
public final class RangingNet {
    public static final int NONE = -1;

    private static final int MAX_NODES = 6;
    private static final int MAX_EXCHANGES = 40;
    private static final int MAX_PLANS = 20;
    private static final int MAX_SAVED = 4;

    private static final int MAX_COORDINATE = 1000;
    private static final int MAX_DRIFT = 100;
    private static final int MAX_DELAY = 200;
    private static final int MAX_ASSUMED = 1000;
    private static final int MAX_REPLY = 400000;
    private static final int MAX_COUNTER_TIME = 1000000000;
    private static final int MAX_PLANNED_TIME = 900000000;
    private static final int MAX_ANCHORS = 999;

    private static final int COUNTER_VALUES = 1048576;
    private static final int MILLION = 1000000;

    private static final int SINGLE_SIDED = 0;
    private static final int SYMMETRIC = 1;
    private static final int ASYMMETRIC = 2;

    private static final int AXIS_X = 0;
    private static final int AXIS_Y = 1;

    /** Columns of the table of nodes. */
    private static final int X = 0;
    private static final int Y = 1;
    private static final int DRIFT = 2;
    private static final int OFFSET = 3;
    private static final int DELAY = 4;
    private static final int ASSUMED = 5;
    private static final int NODE_WIDTH = 6;

    /** Columns of the table of recorded exchanges; P1 to P6 stand side by side, so that P1 + which - 1 is a column. */
    private static final int INITIATOR = 0;
    private static final int RESPONDER = 1;
    private static final int P1 = 2;
    private static final int P2 = 3;
    private static final int P3 = 4;
    private static final int P4 = 5;
    private static final int P5 = 6;
    private static final int P6 = 7;
    private static final int RECORD_WIDTH = 8;
    private static final int STAMPS = 6;

    /** Columns of the table of waiting exchanges. */
    private static final int PLANNED_TIME = 0;
    private static final int PLANNED_INITIATOR = 1;
    private static final int PLANNED_RESPONDER = 2;
    private static final int PLANNED_REPLY1 = 3;
    private static final int PLANNED_REPLY2 = 4;
    private static final int PLAN_WIDTH = 5;

    private static final long DIGEST_START = 2797L;

    private final State state;
    private final History history;

    public RangingNet() {
        state = new State();
        history = new History();
    }

    // ---- nodes

    public int addNode(int x, int y, int drift, int offset, int delay)
            throws IllegalArgumentException, IllegalStateException {
        requireWithin(x, -MAX_COORDINATE, MAX_COORDINATE);
        requireWithin(y, -MAX_COORDINATE, MAX_COORDINATE);
        requireWithin(drift, -MAX_DRIFT, MAX_DRIFT);
        requireWithin(offset, 0, COUNTER_VALUES - 1);
        requireWithin(delay, 0, MAX_DELAY);
        if (state.nodes.isFull()) {
            throw new IllegalStateException("no room for another node");
        }
        history.save(state);
        int node = state.nodes.openRow(state.nodes.count);
        state.nodes.set(node, X, x);
        state.nodes.set(node, Y, y);
        state.nodes.set(node, DRIFT, drift);
        state.nodes.set(node, OFFSET, offset);
        state.nodes.set(node, DELAY, delay);
        state.nodes.set(node, ASSUMED, 0);
        return node;
    }

    public int move(int node, int x, int y)
            throws IndexOutOfBoundsException, IllegalArgumentException {
        requireNode(node);
        requireWithin(x, -MAX_COORDINATE, MAX_COORDINATE);
        requireWithin(y, -MAX_COORDINATE, MAX_COORDINATE);
        history.save(state);
        int moved = floorLength(x - state.nodes.get(node, X), y - state.nodes.get(node, Y));
        state.nodes.set(node, X, x);
        state.nodes.set(node, Y, y);
        return moved;
    }

    public int assume(int node, int delay)
            throws IndexOutOfBoundsException, IllegalArgumentException {
        requireNode(node);
        requireWithin(delay, -MAX_ASSUMED, MAX_ASSUMED);
        history.save(state);
        int previous = state.nodes.get(node, ASSUMED);
        state.nodes.set(node, ASSUMED, delay);
        return previous;
    }

    public int assumed(int node)
            throws IndexOutOfBoundsException {
        requireNode(node);
        return state.nodes.get(node, ASSUMED);
    }

    public int distance(int a, int b)
            throws IndexOutOfBoundsException {
        requireNode(a);
        requireNode(b);
        return state.lengthBetween(a, b);
    }

    public int counter(int node, int time)
            throws IndexOutOfBoundsException, IllegalArgumentException {
        requireNode(node);
        requireWithin(time, 0, MAX_COUNTER_TIME);
        return state.counterAt(node, time);
    }

    // ---- exchanges

    public int exchange(int a, int b, int reply1, int reply2)
            throws IndexOutOfBoundsException, IllegalArgumentException, IllegalStateException {
        requireNode(a);
        requireNode(b);
        requirePair(a, b);
        requireWithin(reply1, 0, MAX_REPLY);
        requireWithin(reply2, 0, MAX_REPLY);
        if (state.records.isFull()) {
            throw new IllegalStateException("no room for another exchange");
        }
        history.save(state);
        return state.carryOut(a, b, reply1, reply2);
    }

    public int plan(int time, int a, int b, int reply1, int reply2)
            throws IndexOutOfBoundsException, IllegalArgumentException, IllegalStateException {
        requireNode(a);
        requireNode(b);
        requirePair(a, b);
        requireWithin(time, 0, MAX_PLANNED_TIME);
        requireWithin(reply1, 0, MAX_REPLY);
        requireWithin(reply2, 0, MAX_REPLY);
        if (state.plans.isFull()) {
            throw new IllegalStateException("no room for another plan");
        }
        history.save(state);
        int row = state.plans.openRow(state.rowForPlan(time));
        state.plans.set(row, PLANNED_TIME, time);
        state.plans.set(row, PLANNED_INITIATOR, a);
        state.plans.set(row, PLANNED_RESPONDER, b);
        state.plans.set(row, PLANNED_REPLY1, reply1);
        state.plans.set(row, PLANNED_REPLY2, reply2);
        return state.plans.count;
    }

    public int nextPlanned() {
        return state.plans.count == 0 ? NONE : state.plans.get(0, PLANNED_TIME);
    }

    public int run(int time)
            throws IllegalArgumentException {
        requireWithin(time, 0, MAX_PLANNED_TIME);
        history.save(state);
        return state.runUntil(time);
    }

    public long now() {
        return state.time;
    }

    public int exchanges() {
        return state.records.count;
    }

    public int stamp(int exchange, int which)
            throws IndexOutOfBoundsException, IllegalArgumentException {
        requireExchange(exchange);
        requireWithin(which, 1, STAMPS);
        return state.records.get(exchange, P1 + which - 1);
    }

    public int party(int exchange, int which)
            throws IndexOutOfBoundsException, IllegalArgumentException {
        requireExchange(exchange);
        requireWithin(which, 0, 1);
        return state.records.get(exchange, which == 0 ? INITIATOR : RESPONDER);
    }

    // ---- ranges

    public int range(int exchange, int method)
            throws IndexOutOfBoundsException, IllegalArgumentException {
        requireExchange(exchange);
        requireMethod(method);
        return state.rangeOf(exchange, method);
    }

    public int latestRange(int a, int b, int method)
            throws IndexOutOfBoundsException, IllegalArgumentException, IllegalStateException {
        requireNode(a);
        requireNode(b);
        requireMethod(method);
        return state.rangeOf(requireLatest(a, b), method);
    }

    public int worstError(int method)
            throws IllegalArgumentException {
        requireMethod(method);
        int worst = NONE;
        for (int i = 0; i < state.records.count; i++) {
            worst = Math.max(worst, Math.abs(state.errorOf(i, method)));
        }
        return worst;
    }

    public double meanError(int method)
            throws IllegalArgumentException {
        requireMethod(method);
        if (state.records.count == 0) {
            return 0.0;
        }
        long sum = 0;
        for (int i = 0; i < state.records.count; i++) {
            sum += state.errorOf(i, method);
        }
        return (double) sum / (double) state.records.count;
    }

    public double relativeDrift(int exchange)
            throws IndexOutOfBoundsException, ArithmeticException {
        requireExchange(exchange);
        int byInitiator = state.elapsed(exchange, P1, P4) + state.elapsed(exchange, P4, P5);
        int byResponder = state.elapsed(exchange, P3, P6) + state.elapsed(exchange, P2, P3);
        if (byResponder == 0) {
            throw new ArithmeticException("no time passed on the responder's counter");
        }
        return ((double) byInitiator / (double) byResponder - 1.0) * 1000000.0;
    }

    // ---- calibration and fixes

    public int calibrate(int a, int b, int c)
            throws IndexOutOfBoundsException, IllegalArgumentException, IllegalStateException {
        requireNode(a);
        requireNode(b);
        requireNode(c);
        requirePair(a, b);
        requirePair(a, c);
        requirePair(b, c);
        int excessAB = state.excessOf(requireLatest(a, b));
        int excessAC = state.excessOf(requireLatest(a, c));
        int excessBC = state.excessOf(requireLatest(b, c));
        history.save(state);
        int delayA = Math.floorDiv(excessAB + excessAC - excessBC, 2);
        int delayB = Math.floorDiv(excessAB + excessBC - excessAC, 2);
        int delayC = Math.floorDiv(excessAC + excessBC - excessAB, 2);
        state.nodes.set(a, ASSUMED, delayA);
        state.nodes.set(b, ASSUMED, delayB);
        state.nodes.set(c, ASSUMED, delayC);
        return delayA + delayB + delayC;
    }

    public int fix(int node, int anchors, int method, int axis)
            throws IndexOutOfBoundsException, IllegalArgumentException, IllegalStateException, ArithmeticException {
        requireNode(node);
        if (anchors < 0 || anchors > MAX_ANCHORS) {
            throw new IndexOutOfBoundsException("anchors are written with three digits");
        }
        int i = anchors / 100;
        int j = anchors / 10 % 10;
        int k = anchors % 10;
        requireNode(i);
        requireNode(j);
        requireNode(k);
        requireFourNodes(node, i, j, k);
        requireMethod(method);
        requireWithin(axis, AXIS_X, AXIS_Y);
        long squareI = squareOf(state.rangeOf(requireLatest(node, i), method));
        long squareJ = squareOf(state.rangeOf(requireLatest(node, j), method));
        long squareK = squareOf(state.rangeOf(requireLatest(node, k), method));
        long rightJ = squareI - squareJ + state.squareFromOrigin(j) - state.squareFromOrigin(i);
        long rightK = squareI - squareK + state.squareFromOrigin(k) - state.squareFromOrigin(i);
        return solve(i, j, k, rightJ, rightK, axis);
    }

    // ---- state

    public int undo()
            throws IllegalStateException {
        if (history.count == 0) {
            throw new IllegalStateException("no saved state");
        }
        history.restore(state);
        return history.count;
    }

    public long digest() {
        long hash = mix(DIGEST_START, state.time);
        hash = state.mixNodes(hash);
        hash = state.mixRecords(hash);
        hash = state.mixPlans(hash);
        return mix(hash, history.count);
    }

    // ---- helpers of the face

    private static void requireWithin(int value, int least, int most) {
        if (value < least || value > most) {
            throw new IllegalArgumentException("an argument is out of range");
        }
    }

    private static void requireMethod(int method) {
        requireWithin(method, SINGLE_SIDED, ASYMMETRIC);
    }

    private static void requirePair(int a, int b) {
        if (a == b) {
            throw new IllegalArgumentException("the nodes are not all different");
        }
    }

    private static void requireFourNodes(int node, int i, int j, int k) {
        requirePair(node, i);
        requirePair(node, j);
        requirePair(node, k);
        requirePair(i, j);
        requirePair(i, k);
        requirePair(j, k);
    }

    private void requireNode(int node) {
        if (node < 0 || node >= state.nodes.count) {
            throw new IndexOutOfBoundsException("no such node");
        }
    }

    private void requireExchange(int exchange) {
        if (exchange < 0 || exchange >= state.records.count) {
            throw new IndexOutOfBoundsException("no such exchange");
        }
    }

    private int requireLatest(int a, int b) {
        int latest = state.latestBetween(a, b);
        if (latest == NONE) {
            throw new IllegalStateException("no exchange between these nodes");
        }
        return latest;
    }

    /** Cramer's rule; ranges stay below 2^22, so that every product here stays below 2^60. */
    private int solve(int i, int j, int k, long rightJ, long rightK, int axis) {
        long xJ = 2L * (state.nodes.get(j, X) - state.nodes.get(i, X));
        long yJ = 2L * (state.nodes.get(j, Y) - state.nodes.get(i, Y));
        long xK = 2L * (state.nodes.get(k, X) - state.nodes.get(i, X));
        long yK = 2L * (state.nodes.get(k, Y) - state.nodes.get(i, Y));
        long determinant = xJ * yK - xK * yJ;
        if (determinant == 0) {
            throw new ArithmeticException("the anchors stand in one line");
        }
        long numerator = axis == AXIS_X ? rightJ * yK - rightK * yJ : xJ * rightK - xK * rightJ;
        long coordinate = Math.floorDiv(numerator, determinant);
        if (coordinate != (int) coordinate) {
            throw new ArithmeticException("the coordinate does not fit into an int");
        }
        return (int) coordinate;
    }

    private static long squareOf(int value) {
        return (long) value * value;
    }

    private static long mix(long hash, long value) {
        return 31 * hash + value;
    }

    /** The length of a way, rounded down, bit by bit: dx and dy are at most 2000, so that the root is below 4096. */
    private static int floorLength(int dx, int dy) {
        int square = dx * dx + dy * dy;
        int root = 0;
        for (int bit = 2048; bit > 0; bit /= 2) {
            int greater = root + bit;
            if (greater * greater <= square) {
                root = greater;
            }
        }
        return root;
    }

    /** Rows of numbers, of which the first {@code count} are in use. Every index is looked at here. */
    private static final class Table {
        private final int[] cells;
        private final int width;
        private int count;

        Table(int[] cells, int width) {
            this.cells = cells;
            this.width = width;
        }

        boolean isFull() {
            return (count + 1) * width > cells.length;
        }

        int get(int row, int column) {
            int at = row * width + column;
            return at >= 0 && at < cells.length ? cells[at] : 0;
        }

        void set(int row, int column, int value) {
            int at = row * width + column;
            if (at >= 0 && at < cells.length) {
                cells[at] = value;
            }
        }

        /** Makes room for a row before the given one; the caller fills it. */
        int openRow(int row) {
            if (isFull() || row < 0 || row > count) {
                return NONE;
            }
            System.arraycopy(cells, row * width, cells, (row + 1) * width, (count - row) * width);
            count++;
            return row;
        }

        void removeFirstRow() {
            if (count > 0) {
                count--;
                System.arraycopy(cells, width, cells, 0, count * width);
            }
        }

        void copyFrom(Table other) {
            int used = other.count * width;
            if (used <= cells.length && used <= other.cells.length) {
                System.arraycopy(other.cells, 0, cells, 0, used);
                count = other.count;
            }
        }
    }

    /** Everything that an undo brings back, and what happens to it as time goes on. */
    private static final class State {
        private long time;
        private final Table nodes;
        private final Table records;
        /** In the order in which the waiting exchanges would be carried out. */
        private final Table plans;

        State() {
            nodes = new Table(new int[MAX_NODES * NODE_WIDTH], NODE_WIDTH);
            records = new Table(new int[MAX_EXCHANGES * RECORD_WIDTH], RECORD_WIDTH);
            plans = new Table(new int[MAX_PLANS * PLAN_WIDTH], PLAN_WIDTH);
        }

        void copyFrom(State other) {
            time = other.time;
            nodes.copyFrom(other.nodes);
            records.copyFrom(other.records);
            plans.copyFrom(other.plans);
        }

        int lengthBetween(int a, int b) {
            return floorLength(nodes.get(a, X) - nodes.get(b, X), nodes.get(a, Y) - nodes.get(b, Y));
        }

        /** x^2 + y^2 of a node. */
        long squareFromOrigin(int node) {
            return squareOf(nodes.get(node, X)) + squareOf(nodes.get(node, Y));
        }

        /** Neither time nor 1000000 + drift is ever negative, so that the plain division rounds down. */
        int counterAt(int node, long trueTime) {
            long ticks = trueTime * (MILLION + nodes.get(node, DRIFT)) / MILLION;
            return (int) Math.floorMod(ticks + nodes.get(node, OFFSET), (long) COUNTER_VALUES);
        }

        int carryOut(int a, int b, int reply1, int reply2) {
            int way = nodes.get(a, DELAY) + lengthBetween(a, b) + nodes.get(b, DELAY);
            long pollReceived = time + way;
            long responseSent = pollReceived + reply1;
            long responseReceived = responseSent + way;
            long finalSent = responseReceived + reply2;
            long finalReceived = finalSent + way;
            int row = records.openRow(records.count);
            records.set(row, INITIATOR, a);
            records.set(row, RESPONDER, b);
            records.set(row, P1, counterAt(a, time));
            records.set(row, P2, counterAt(b, pollReceived));
            records.set(row, P3, counterAt(b, responseSent));
            records.set(row, P4, counterAt(a, responseReceived));
            records.set(row, P5, counterAt(a, finalSent));
            records.set(row, P6, counterAt(b, finalReceived));
            time = finalReceived;
            return row;
        }

        /** The row before which a new plan belongs: behind those of the same time. */
        int rowForPlan(int plannedTime) {
            int row = 0;
            while (row < plans.count && plans.get(row, PLANNED_TIME) <= plannedTime) {
                row++;
            }
            return row;
        }

        int runUntil(int end) {
            int carriedOut = 0;
            int waiting = plans.count;
            for (int i = 0; i < waiting && plans.get(0, PLANNED_TIME) <= end; i++) {
                if (!records.isFull()) {
                    carryOutFirstPlan();
                    carriedOut++;
                }
                plans.removeFirstRow();
            }
            time = Math.max(time, end);
            return carriedOut;
        }

        private void carryOutFirstPlan() {
            time = Math.max(time, plans.get(0, PLANNED_TIME));
            carryOut(plans.get(0, PLANNED_INITIATOR), plans.get(0, PLANNED_RESPONDER),
                    plans.get(0, PLANNED_REPLY1), plans.get(0, PLANNED_REPLY2));
        }

        /** The counter's way from one stamp of an exchange to another. */
        int elapsed(int exchange, int from, int to) {
            return Math.floorMod(records.get(exchange, to) - records.get(exchange, from), COUNTER_VALUES);
        }

        int rawRangeOf(int exchange, int method) {
            long roundA = elapsed(exchange, P1, P4);
            long replyB = elapsed(exchange, P2, P3);
            long roundB = elapsed(exchange, P3, P6);
            long replyA = elapsed(exchange, P4, P5);
            if (method == SINGLE_SIDED) {
                return (int) Math.floorDiv(roundA - replyB, 2L);
            }
            if (method == SYMMETRIC) {
                return (int) Math.floorDiv(roundA - replyB + roundB - replyA, 4L);
            }
            long divisor = roundA + roundB + replyA + replyB;
            return divisor == 0 ? 0 : (int) Math.floorDiv(roundA * roundB - replyA * replyB, divisor);
        }

        int rangeOf(int exchange, int method) {
            return rawRangeOf(exchange, method)
                    - nodes.get(records.get(exchange, INITIATOR), ASSUMED)
                    - nodes.get(records.get(exchange, RESPONDER), ASSUMED);
        }

        int errorOf(int exchange, int method) {
            return rangeOf(exchange, method) - lengthOf(exchange);
        }

        /** By how much the raw range exceeds the distance: what a calibration spreads over the nodes. */
        int excessOf(int exchange) {
            return rawRangeOf(exchange, ASYMMETRIC) - lengthOf(exchange);
        }

        private int lengthOf(int exchange) {
            return lengthBetween(records.get(exchange, INITIATOR), records.get(exchange, RESPONDER));
        }

        int latestBetween(int a, int b) {
            for (int i = records.count - 1; i >= 0; i--) {
                int initiator = records.get(i, INITIATOR);
                int responder = records.get(i, RESPONDER);
                if (initiator == a && responder == b || initiator == b && responder == a) {
                    return i;
                }
            }
            return NONE;
        }

        long mixNodes(long start) {
            long hash = mix(start, nodes.count);
            for (int i = 0; i < nodes.count; i++) {
                for (int column = 0; column < NODE_WIDTH; column++) {
                    hash = mix(hash, nodes.get(i, column));
                }
                hash = mix(hash, counterAt(i, time));
            }
            return hash;
        }

        long mixRecords(long start) {
            long hash = mix(start, records.count);
            for (int i = 0; i < records.count; i++) {
                for (int column = 0; column < RECORD_WIDTH; column++) {
                    hash = mix(hash, records.get(i, column));
                }
                for (int method = SINGLE_SIDED; method <= ASYMMETRIC; method++) {
                    hash = mix(hash, rangeOf(i, method));
                }
            }
            return hash;
        }

        long mixPlans(long start) {
            long hash = mix(start, plans.count);
            for (int i = 0; i < plans.count; i++) {
                for (int column = 0; column < PLAN_WIDTH; column++) {
                    hash = mix(hash, plans.get(i, column));
                }
            }
            return hash;
        }
    }

    /** The saved states, in a ring of rows that are made once and used again. */
    private static final class History {
        private final State[] states;
        private int newest;
        private int count;

        History() {
            states = new State[MAX_SAVED];
            for (int i = 0; i < states.length; i++) {
                states[i] = new State();
            }
        }

        /** In a full ring the slot behind the newest is that of the oldest, which is overwritten. */
        void save(State state) {
            newest = Math.floorMod(newest + 1, MAX_SAVED);
            State slot = newestSlot();
            if (slot != null) {
                slot.copyFrom(state);
            }
            count = Math.min(count + 1, MAX_SAVED);
        }

        void restore(State state) {
            State slot = newestSlot();
            if (slot != null && count > 0) {
                state.copyFrom(slot);
                newest = Math.floorMod(newest - 1, MAX_SAVED);
                count--;
            }
        }

        private State newestSlot() {
            return newest >= 0 && newest < states.length ? states[newest] : null;
        }
    }
}
