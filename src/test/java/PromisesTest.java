/** Each promise of the document in turn: ordinary inputs, the edges that it names, wrong inputs and their order. */
public final class PromisesTest {
    private static final Class<IndexOutOfBoundsException> NO_SUCH = IndexOutOfBoundsException.class;
    private static final Class<IllegalArgumentException> ARGUMENT = IllegalArgumentException.class;
    private static final Class<IllegalStateException> STATE = IllegalStateException.class;
    private static final Class<ArithmeticException> ARITHMETIC = ArithmeticException.class;
    private static final int LOW = Integer.MIN_VALUE;
    private static final int HIGH = Integer.MAX_VALUE;

    private static final Checks CHECKS = new Checks();

    public static void main(String[] args) {
        promise1NewObject();
        promise2AddNode();
        promise3Move();
        promises4And5Assume();
        promise6Distance();
        promise7Counter();
        promise8Exchange();
        promise9Plan();
        promise10NextPlanned();
        promise11Run();
        promise11RunWithFullRecord();
        promises12To15Records();
        promise16Range();
        promise16RoundingDown();
        promise16Wrap();
        promise17LatestRange();
        promises18And19Errors();
        promise20RelativeDrift();
        promise21Calibrate();
        promise22Fix();
        promise22FixWithoutAnswer();
        promise22FixAtTheEndsOfTheInts();
        promise23Undo();
        promise23WhatIsUndoable();
        promise24Digest();
        CHECKS.finish("PromisesTest");
    }

    private static void promise1NewObject() {
        RangingNet net = new RangingNet();
        CHECKS.due("1 now", 0L, net::now);
        CHECKS.due("1 exchanges", 0, net::exchanges);
        CHECKS.due("1 nextPlanned", -1, net::nextPlanned);
        CHECKS.dueThrow("1 assumed(0)", NO_SUCH, net, () -> net.assumed(0));
        CHECKS.dueThrow("1 undo", STATE, net, net::undo);
        CHECKS.due("1 digest", 80075735347L, net::digest);
    }

    private static void promise2AddNode() {
        RangingNet net = new RangingNet();
        int[][] wrong = {
            {-1001, 0, 0, 0, 0}, {1001, 0, 0, 0, 0}, {LOW, 0, 0, 0, 0}, {HIGH, 0, 0, 0, 0},
            {0, -1001, 0, 0, 0}, {0, 1001, 0, 0, 0}, {0, LOW, 0, 0, 0}, {0, HIGH, 0, 0, 0},
            {0, 0, -101, 0, 0}, {0, 0, 101, 0, 0}, {0, 0, LOW, 0, 0}, {0, 0, HIGH, 0, 0},
            {0, 0, 0, -1, 0}, {0, 0, 0, 1048576, 0}, {0, 0, 0, LOW, 0}, {0, 0, 0, HIGH, 0},
            {0, 0, 0, 0, -1}, {0, 0, 0, 0, 201}, {0, 0, 0, 0, LOW}, {0, 0, 0, 0, HIGH}};
        for (int[] w : wrong) {
            CHECKS.dueThrow("2 addNode, wrong", ARGUMENT, net, () -> net.addNode(w[0], w[1], w[2], w[3], w[4]));
        }
        CHECKS.due("2 addNode, least", 0, () -> net.addNode(-1000, -1000, -100, 0, 0));
        CHECKS.due("2 addNode, most", 1, () -> net.addNode(1000, 1000, 100, 1048575, 200));
        for (int i = 2; i < 6; i++) {
            CHECKS.due("2 addNode", i, () -> net.addNode(0, 0, 0, 7, 0));
        }
        CHECKS.due("2 offset kept", 7, () -> net.counter(5, 0));
        CHECKS.dueThrow("2 seventh node", STATE, net, () -> net.addNode(0, 0, 0, 0, 0));
        for (int[] w : wrong) {
            CHECKS.dueThrow("2 argument before state", ARGUMENT, net, () -> net.addNode(w[0], w[1], w[2], w[3], w[4]));
        }
        CHECKS.due("2 undoable", 3, net::undo);
        CHECKS.due("2 room again", 5, () -> net.addNode(1, 2, 3, 4, 5));
        CHECKS.due("2 the new node's own offset", 4, () -> net.counter(5, 0));
        CHECKS.due("2 assumed at first", 0, () -> net.assumed(5));
    }

    private static void promise3Move() {
        RangingNet net = new RangingNet();
        net.addNode(0, 0, 0, 0, 0);
        net.addNode(0, 0, 0, 0, 0);
        net.exchange(0, 1, 5, 5);
        CHECKS.due("3 move", 1414, () -> net.move(0, 1000, 1000));
        CHECKS.due("3 move, whole board", 2828, () -> net.move(0, -1000, -1000));
        CHECKS.due("3 move, least", 1414, () -> net.move(0, 0, 0));
        CHECKS.due("3 move, rounded down", 1, () -> net.move(0, 1, 1));
        CHECKS.due("3 stays", 0, () -> net.move(0, 1, 1));
        CHECKS.due("3 move along y", 9, () -> net.move(0, 1, 10));
        CHECKS.due("3 move along x", 7, () -> net.move(0, -6, 10));
        CHECKS.due("3 move aslant", 13, () -> net.move(0, 6, 5));
        net.move(0, 1, 1);
        net.move(0, 1, 1);
        CHECKS.due("3 exchange stays", 5, () -> net.stamp(0, 4));
        CHECKS.due("3 exchange stays", 0, () -> net.range(0, 2));
        CHECKS.due("3 distance now", 1, () -> net.distance(0, 1));
        CHECKS.due("3 error now", 1, () -> net.worstError(2));
        for (int node : new int[] {-1, 2, 6, LOW, HIGH}) {
            CHECKS.dueThrow("3 no node", NO_SUCH, net, () -> net.move(node, 0, 0));
            CHECKS.dueThrow("3 no node first", NO_SUCH, net, () -> net.move(node, 1001, 0));
        }
        for (int far : new int[] {-1001, 1001, LOW, HIGH}) {
            CHECKS.dueThrow("3 x", ARGUMENT, net, () -> net.move(0, far, 0));
            CHECKS.dueThrow("3 y", ARGUMENT, net, () -> net.move(0, 0, far));
        }
        CHECKS.due("3 undoable without change", 3, net::undo);
        CHECKS.due("3 undone", 1, () -> net.distance(0, 1));
        net.undo();
        CHECKS.due("3 undone", 7, () -> net.distance(0, 1));
        net.undo();
        CHECKS.due("3 undone", 11, () -> net.distance(0, 1));
    }

    private static void promises4And5Assume() {
        RangingNet net = new RangingNet();
        net.addNode(0, 0, 0, 0, 9);
        net.addNode(0, 0, 0, 0, 0);
        CHECKS.due("5 assumed at first", 0, () -> net.assumed(0));
        CHECKS.due("4 assume", 0, () -> net.assume(0, 1000));
        CHECKS.due("5 assumed", 1000, () -> net.assumed(0));
        CHECKS.due("5 of the other", 0, () -> net.assumed(1));
        CHECKS.due("4 assume", 1000, () -> net.assume(0, -1000));
        CHECKS.due("4 assume", -1000, () -> net.assume(0, 3));
        for (int node : new int[] {-1, 2, LOW, HIGH}) {
            CHECKS.dueThrow("4 no node", NO_SUCH, net, () -> net.assume(node, 0));
            CHECKS.dueThrow("4 no node first", NO_SUCH, net, () -> net.assume(node, 1001));
            CHECKS.dueThrow("5 no node", NO_SUCH, net, () -> net.assumed(node));
        }
        for (int delay : new int[] {-1001, 1001, LOW, HIGH}) {
            CHECKS.dueThrow("4 delay", ARGUMENT, net, () -> net.assume(0, delay));
        }
        CHECKS.due("4 undoable", 3, net::undo);
        CHECKS.due("4 undone", -1000, () -> net.assumed(0));
    }

    private static void promise6Distance() {
        RangingNet net = new RangingNet();
        net.addNode(-1000, -1000, 0, 0, 200);
        net.addNode(1000, 1000, 0, 0, 200);
        net.addNode(2, -1000, 0, 0, 0);
        net.addNode(4, -998, 0, 0, 0);
        CHECKS.due("6 greatest", 2828, () -> net.distance(0, 1));
        CHECKS.due("6 backwards", 2828, () -> net.distance(1, 0));
        CHECKS.due("6 along one axis", 1002, () -> net.distance(0, 2));
        CHECKS.due("6 rounded down", 2, () -> net.distance(2, 3));
        CHECKS.due("6 to itself", 0, () -> net.distance(1, 1));
        for (int node : new int[] {-1, 4, LOW, HIGH}) {
            CHECKS.dueThrow("6 no first node", NO_SUCH, net, () -> net.distance(node, 0));
            CHECKS.dueThrow("6 no second node", NO_SUCH, net, () -> net.distance(0, node));
        }
    }

    private static void promise7Counter() {
        RangingNet net = new RangingNet();
        net.addNode(0, 0, 0, 1048575, 0);
        net.addNode(0, 0, -100, 0, 0);
        net.addNode(0, 0, 100, 1048575, 0);
        CHECKS.due("7 offset", 1048575, () -> net.counter(0, 0));
        CHECKS.due("7 wraps", 0, () -> net.counter(0, 1));
        CHECKS.due("7 rounded down", 0, () -> net.counter(1, 1));
        CHECKS.due("7 slow", 9999, () -> net.counter(1, 10001));
        CHECKS.due("7 slow, whole", 999900, () -> net.counter(1, 1000000));
        CHECKS.due("7 last before the wrap", 1048575, () -> net.counter(0, 1048576));
        CHECKS.due("7 latest time", 807071, () -> net.counter(2, 1000000000));
        for (int node : new int[] {-1, 3, LOW, HIGH}) {
            CHECKS.dueThrow("7 no node", NO_SUCH, net, () -> net.counter(node, 0));
            CHECKS.dueThrow("7 no node first", NO_SUCH, net, () -> net.counter(node, -1));
        }
        for (int time : new int[] {-1, 1000000001, LOW, HIGH}) {
            CHECKS.dueThrow("7 time", ARGUMENT, net, () -> net.counter(0, time));
        }
    }

    private static void promise8Exchange() {
        RangingNet net = new RangingNet();
        net.addNode(0, 0, 0, 0, 15);
        net.addNode(30, 40, 0, 1000, 5);
        CHECKS.due("8 exchange", 0, () -> net.exchange(0, 1, 10, 20));
        int[] stamps = {0, 1070, 1080, 150, 170, 1240};
        for (int i = 0; i < 6; i++) {
            int which = i + 1;
            CHECKS.due("8 stamp " + which, stamps[i], () -> net.stamp(0, which));
        }
        CHECKS.due("8 now", 240L, net::now);
        CHECKS.due("8 back", 1, () -> net.exchange(1, 0, 400000, 400000));
        CHECKS.due("8 from now on", 1240, () -> net.stamp(1, 1));
        CHECKS.due("8 now", 800450L, net::now);
        for (int node : new int[] {-1, 2, LOW, HIGH}) {
            CHECKS.dueThrow("8 no node", NO_SUCH, net, () -> net.exchange(node, 0, 0, 0));
            CHECKS.dueThrow("8 no node", NO_SUCH, net, () -> net.exchange(0, node, 0, 0));
            CHECKS.dueThrow("8 no node first", NO_SUCH, net, () -> net.exchange(node, node, -1, 0));
        }
        CHECKS.dueThrow("8 one node", ARGUMENT, net, () -> net.exchange(1, 1, 0, 0));
        for (int reply : new int[] {-1, 400001, LOW, HIGH}) {
            CHECKS.dueThrow("8 reply1", ARGUMENT, net, () -> net.exchange(0, 1, reply, 0));
            CHECKS.dueThrow("8 reply2", ARGUMENT, net, () -> net.exchange(0, 1, 0, reply));
        }
        for (int i = 2; i < 40; i++) {
            CHECKS.due("8 exchange", i, () -> net.exchange(0, 1, 0, 0));
        }
        CHECKS.dueThrow("8 full", STATE, net, () -> net.exchange(0, 1, 0, 0));
        CHECKS.dueThrow("8 no node before full", NO_SUCH, net, () -> net.exchange(0, 2, 0, 0));
        CHECKS.dueThrow("8 argument before full", ARGUMENT, net, () -> net.exchange(0, 0, 0, 0));
        CHECKS.dueThrow("8 argument before full", ARGUMENT, net, () -> net.exchange(0, 1, 0, -1));
        CHECKS.due("8 undoable", 3, net::undo);
        CHECKS.due("8 undone", 39, net::exchanges);
        CHECKS.due("8 room again", 39, () -> net.exchange(0, 1, 0, 0));
    }

    private static void promise9Plan() {
        RangingNet net = new RangingNet();
        net.addNode(0, 0, 0, 0, 0);
        net.addNode(10, 0, 0, 0, 0);
        for (int node : new int[] {-1, 2, LOW, HIGH}) {
            CHECKS.dueThrow("9 no node", NO_SUCH, net, () -> net.plan(0, node, 0, 0, 0));
            CHECKS.dueThrow("9 no node", NO_SUCH, net, () -> net.plan(0, 0, node, 0, 0));
            CHECKS.dueThrow("9 no node first", NO_SUCH, net, () -> net.plan(-1, node, node, -1, 0));
        }
        CHECKS.dueThrow("9 one node", ARGUMENT, net, () -> net.plan(0, 1, 1, 0, 0));
        for (int reply : new int[] {-1, 400001, LOW, HIGH}) {
            CHECKS.dueThrow("9 reply1", ARGUMENT, net, () -> net.plan(0, 0, 1, reply, 0));
            CHECKS.dueThrow("9 reply2", ARGUMENT, net, () -> net.plan(0, 0, 1, 0, reply));
        }
        for (int time : new int[] {-1, 900000001, LOW, HIGH}) {
            CHECKS.dueThrow("9 time", ARGUMENT, net, () -> net.plan(time, 0, 1, 0, 0));
        }
        CHECKS.due("9 latest time", 1, () -> net.plan(900000000, 0, 1, 400000, 400000));
        CHECKS.due("9 undoable", 2, net::undo);
        CHECKS.due("9 undone", -1, net::nextPlanned);
        for (int i = 1; i <= 20; i++) {
            CHECKS.due("9 plan", i, () -> net.plan(0, 0, 1, 0, 0));
        }
        CHECKS.dueThrow("9 full", STATE, net, () -> net.plan(0, 0, 1, 0, 0));
        CHECKS.dueThrow("9 no node before full", NO_SUCH, net, () -> net.plan(0, 0, 2, 0, 0));
        CHECKS.dueThrow("9 argument before full", ARGUMENT, net, () -> net.plan(-1, 0, 1, 0, 0));
        CHECKS.dueThrow("9 argument before full", ARGUMENT, net, () -> net.plan(0, 0, 0, 0, 0));
        CHECKS.due("9 nothing carried out", 0, net::exchanges);
        CHECKS.due("9 all carried out", 20, () -> net.run(0));
        CHECKS.due("9 a past time may be planned", 1, () -> net.plan(0, 0, 1, 0, 0));
        CHECKS.due("9 carried out now", 1, () -> net.run(0));
        CHECKS.due("9 now", 21L * 30, net::now);
    }

    private static void promise10NextPlanned() {
        RangingNet net = new RangingNet();
        net.addNode(0, 0, 0, 0, 0);
        net.addNode(10, 0, 0, 0, 0);
        CHECKS.due("10 none", RangingNet.NONE, net::nextPlanned);
        net.plan(500, 0, 1, 0, 0);
        CHECKS.due("10 the one", 500, net::nextPlanned);
        net.plan(700, 0, 1, 0, 0);
        CHECKS.due("10 not the later", 500, net::nextPlanned);
        net.plan(300, 0, 1, 0, 0);
        CHECKS.due("10 the earlier", 300, net::nextPlanned);
        net.run(400);
        CHECKS.due("10 the next", 500, net::nextPlanned);
        net.run(700);
        CHECKS.due("10 none left", RangingNet.NONE, net::nextPlanned);
    }

    private static void promise11Run() {
        RangingNet net = new RangingNet();
        CHECKS.due("11 nothing waits", 0, () -> net.run(100));
        CHECKS.due("11 now", 100L, net::now);
        CHECKS.due("11 into the past", 0, () -> net.run(50));
        CHECKS.due("11 now stays", 100L, net::now);
        net.addNode(0, 0, 0, 0, 0);
        net.addNode(10, 0, 0, 0, 0);
        net.addNode(20, 0, 0, 0, 0);
        net.plan(300, 0, 1, 5, 5);
        net.plan(200, 1, 2, 100, 0);
        net.plan(300, 2, 0, 0, 0);
        net.plan(200, 2, 1, 0, 0);
        net.plan(301, 1, 0, 0, 0);
        CHECKS.due("11 until just before", 0, () -> net.run(199));
        CHECKS.due("11 up to and with this time", 4, () -> net.run(300));
        int[][] parties = {{1, 2}, {2, 1}, {0, 1}, {2, 0}};
        int[] begins = {200, 330, 360, 400};
        for (int i = 0; i < 4; i++) {
            int exchange = i;
            CHECKS.due("11 initiator", parties[i][0], () -> net.party(exchange, 0));
            CHECKS.due("11 responder", parties[i][1], () -> net.party(exchange, 1));
            CHECKS.due("11 begin", begins[i], () -> net.stamp(exchange, 1));
        }
        CHECKS.due("11 now", 460L, net::now);
        CHECKS.due("11 a planned time in the past", 1, () -> net.run(301));
        CHECKS.due("11 begins now", 460, () -> net.stamp(4, 1));
        CHECKS.due("11 latest time", 0, () -> net.run(900000000));
        CHECKS.due("11 now", 900000000L, net::now);
        for (int time : new int[] {-1, 900000001, LOW, HIGH}) {
            CHECKS.dueThrow("11 time", ARGUMENT, net, () -> net.run(time));
        }
        CHECKS.due("11 undoable", 3, net::undo);
        CHECKS.due("11 undone", 490L, net::now);
        net.undo();
        CHECKS.due("11 plan back", 301, net::nextPlanned);
        CHECKS.due("11 record back", 4, net::exchanges);
        net.undo();
        CHECKS.due("11 all plans back", 200, net::nextPlanned);
        CHECKS.due("11 time back", 199L, net::now);
        CHECKS.due("11 again", 5, () -> net.run(900000000));
    }

    private static void promise11RunWithFullRecord() {
        RangingNet net = new RangingNet();
        net.addNode(0, 0, 0, 0, 0);
        net.addNode(10, 0, 0, 0, 0);
        for (int i = 0; i < 39; i++) {
            net.exchange(0, 1, 0, 0);
        }
        for (int i = 0; i < 3; i++) {
            net.plan(2000 + i, 1, 0, 0, 0);
        }
        net.plan(9000, 1, 0, 0, 0);
        CHECKS.due("11 one fits, two are dropped", 1, () -> net.run(2002));
        CHECKS.due("11 full", 40, net::exchanges);
        CHECKS.due("11 the last one", 2000, () -> net.stamp(39, 1));
        CHECKS.due("11 dropped ones take no time", 2030L, net::now);
        CHECKS.due("11 one waits", 9000, net::nextPlanned);
        CHECKS.due("11 dropped", 0, () -> net.run(9500));
        CHECKS.due("11 none waits", -1, net::nextPlanned);
        CHECKS.due("11 now", 9500L, net::now);
    }

    private static void promises12To15Records() {
        RangingNet net = new RangingNet();
        net.addNode(0, 0, 0, 0, 0);
        net.addNode(10, 0, 0, 0, 0);
        CHECKS.dueThrow("14 none yet", NO_SUCH, net, () -> net.stamp(0, 1));
        CHECKS.dueThrow("15 none yet", NO_SUCH, net, () -> net.party(0, 0));
        net.exchange(1, 0, 1, 2);
        net.exchange(0, 1, 3, 4);
        CHECKS.due("12 now", 70L, net::now);
        CHECKS.due("13 exchanges", 2, net::exchanges);
        CHECKS.due("14 first", 0, () -> net.stamp(0, 1));
        CHECKS.due("14 last", 70, () -> net.stamp(1, 6));
        CHECKS.due("15 initiator", 1, () -> net.party(0, 0));
        CHECKS.due("15 responder", 0, () -> net.party(0, 1));
        CHECKS.due("15 initiator", 0, () -> net.party(1, 0));
        for (int exchange : new int[] {-1, 2, 40, LOW, HIGH}) {
            CHECKS.dueThrow("14 no exchange", NO_SUCH, net, () -> net.stamp(exchange, 1));
            CHECKS.dueThrow("14 no exchange first", NO_SUCH, net, () -> net.stamp(exchange, 0));
            CHECKS.dueThrow("15 no exchange", NO_SUCH, net, () -> net.party(exchange, 0));
            CHECKS.dueThrow("15 no exchange first", NO_SUCH, net, () -> net.party(exchange, 2));
        }
        for (int which : new int[] {0, 7, -1, LOW, HIGH}) {
            CHECKS.dueThrow("14 which", ARGUMENT, net, () -> net.stamp(0, which));
        }
        for (int which : new int[] {-1, 2, LOW, HIGH}) {
            CHECKS.dueThrow("15 which", ARGUMENT, net, () -> net.party(0, which));
        }
    }

    private static void promise16Range() {
        RangingNet net = new RangingNet();
        net.addNode(0, 0, 0, 0, 15);
        net.addNode(30, 40, 0, 0, 5);
        net.exchange(0, 1, 10, 20);
        for (int method = 0; method <= 2; method++) {
            int m = method;
            CHECKS.due("16 raw", 70, () -> net.range(0, m));
        }
        net.assume(0, 15);
        net.assume(1, 5);
        for (int method = 0; method <= 2; method++) {
            int m = method;
            CHECKS.due("16 minus assumed delays", 50, () -> net.range(0, m));
        }
        net.assume(1, 100);
        CHECKS.due("16 below 0", -45, () -> net.range(0, 0));
        for (int exchange : new int[] {-1, 1, LOW, HIGH}) {
            CHECKS.dueThrow("16 no exchange", NO_SUCH, net, () -> net.range(exchange, 0));
            CHECKS.dueThrow("16 no exchange first", NO_SUCH, net, () -> net.range(exchange, 3));
        }
        for (int method : new int[] {-1, 3, LOW, HIGH}) {
            CHECKS.dueThrow("16 method", ARGUMENT, net, () -> net.range(0, method));
        }
    }

    /** A slow initiator and a fast responder on one spot: every raw range is a fraction just below 0. */
    private static void promise16RoundingDown() {
        RangingNet net = new RangingNet();
        net.addNode(0, 0, -100, 0, 0);
        net.addNode(0, 0, 100, 0, 0);
        net.exchange(0, 1, 5000, 0);
        CHECKS.due("16 -1 / 2", -1, () -> net.range(0, 0));
        CHECKS.due("16 -1 / 4", -1, () -> net.range(0, 1));
        CHECKS.due("16 0 / 9999", 0, () -> net.range(0, 2));
        net.undo();
        net.exchange(0, 1, 5000, 5000);
        CHECKS.due("16 -1 / 20000", -1, () -> net.range(0, 2));
        net.undo();
        net.exchange(0, 1, 0, 0);
        CHECKS.due("16 divisor 0", 0, () -> net.range(0, 2));
        net.assume(1, 4);
        CHECKS.due("16 divisor 0, minus assumed", -4, () -> net.range(0, 2));
    }

    private static void promise16Wrap() {
        for (int offset = 1048576 - 2700; offset < 1048576; offset += 100) {
            RangingNet net = new RangingNet();
            net.addNode(0, 0, 0, offset, 0);
            net.addNode(0, 500, 0, 1048576 - 1 - offset, 0);
            net.exchange(0, 1, 700, 500);
            net.exchange(1, 0, 700, 500);
            for (int method = 0; method <= 2; method++) {
                int m = method;
                CHECKS.due("16 wrapping counters", 500, () -> net.range(0, m));
                CHECKS.due("16 wrapping counters", 500, () -> net.range(1, m));
            }
        }
    }

    private static void promise17LatestRange() {
        RangingNet net = new RangingNet();
        net.addNode(0, 0, 0, 0, 0);
        net.addNode(10, 0, 0, 0, 0);
        net.addNode(0, 20, 0, 0, 0);
        CHECKS.dueThrow("17 none", STATE, net, () -> net.latestRange(0, 1, 0));
        net.exchange(0, 1, 7, 7);
        CHECKS.due("17 one", 10, () -> net.latestRange(0, 1, 0));
        CHECKS.due("17 turned round", 10, () -> net.latestRange(1, 0, 2));
        net.move(1, 50, 0);
        CHECKS.due("17 as recorded", 10, () -> net.latestRange(0, 1, 1));
        net.exchange(1, 0, 7, 7);
        net.exchange(0, 2, 7, 7);
        CHECKS.due("17 the later one", 50, () -> net.latestRange(0, 1, 1));
        CHECKS.due("17 of others", 20, () -> net.latestRange(2, 0, 1));
        net.assume(0, 3);
        CHECKS.due("17 minus assumed", 47, () -> net.latestRange(0, 1, 1));
        CHECKS.dueThrow("17 never met", STATE, net, () -> net.latestRange(1, 2, 0));
        CHECKS.dueThrow("17 with itself", STATE, net, () -> net.latestRange(1, 1, 0));
        for (int node : new int[] {-1, 3, LOW, HIGH}) {
            CHECKS.dueThrow("17 no node", NO_SUCH, net, () -> net.latestRange(node, 1, 0));
            CHECKS.dueThrow("17 no node", NO_SUCH, net, () -> net.latestRange(1, node, 0));
            CHECKS.dueThrow("17 no node first", NO_SUCH, net, () -> net.latestRange(1, node, 3));
        }
        for (int method : new int[] {-1, 3, LOW, HIGH}) {
            CHECKS.dueThrow("17 method", ARGUMENT, net, () -> net.latestRange(0, 1, method));
            CHECKS.dueThrow("17 method before none", ARGUMENT, net, () -> net.latestRange(1, 2, method));
        }
    }

    private static void promises18And19Errors() {
        RangingNet net = new RangingNet();
        net.addNode(0, 0, 0, 0, 10);
        net.addNode(100, 0, 0, 0, 0);
        net.addNode(0, 100, 0, 0, 5);
        CHECKS.due("18 none", RangingNet.NONE, () -> net.worstError(0));
        CHECKS.due("19 none", 0.0, () -> net.meanError(0));
        net.exchange(0, 1, 1, 1);
        net.exchange(0, 2, 1, 1);
        net.exchange(1, 2, 1, 1);
        for (int method = 0; method <= 2; method++) {
            int m = method;
            CHECKS.due("18 worst", 15, () -> net.worstError(m));
            CHECKS.due("19 mean", 10.0, () -> net.meanError(m));
        }
        net.assume(0, 15);
        net.assume(2, 10);
        CHECKS.due("18 worst below 0", 10, () -> net.worstError(2));
        CHECKS.due("19 mean", -20.0 / 3.0, () -> net.meanError(2));
        net.assume(2, 40);
        net.move(2, 0, 110);
        CHECKS.due("18 distance now", 50, () -> net.worstError(1));
        CHECKS.due("19 distance now", -97.0 / 3.0, () -> net.meanError(1));
        for (int method : new int[] {-1, 3, LOW, HIGH}) {
            CHECKS.dueThrow("18 method", ARGUMENT, net, () -> net.worstError(method));
            CHECKS.dueThrow("19 method", ARGUMENT, net, () -> net.meanError(method));
        }
        RangingNet empty = new RangingNet();
        CHECKS.dueThrow("18 method before none", ARGUMENT, empty, () -> empty.worstError(3));
        CHECKS.dueThrow("19 method before none", ARGUMENT, empty, () -> empty.meanError(-1));
    }

    private static void promise20RelativeDrift() {
        RangingNet net = new RangingNet();
        net.addNode(0, 0, -100, 0, 0);
        net.addNode(0, 0, 100, 0, 0);
        net.exchange(0, 1, 5000, 5000);
        CHECKS.due("20 slower", (9999.0 / 10001.0 - 1.0) * 1000000.0, () -> net.relativeDrift(0));
        net.exchange(1, 0, 5000, 5000);
        CHECKS.due("20 faster", (10001.0 / 9999.0 - 1.0) * 1000000.0, () -> net.relativeDrift(1));
        net.exchange(0, 1, 0, 0);
        CHECKS.dueThrow("20 no time", ARITHMETIC, net, () -> net.relativeDrift(2));
        for (int exchange : new int[] {-1, 3, LOW, HIGH}) {
            CHECKS.dueThrow("20 no exchange", NO_SUCH, net, () -> net.relativeDrift(exchange));
        }
        RangingNet ticking = new RangingNet();
        ticking.addNode(0, 0, 0, 0, 0);
        ticking.addNode(0, 0, -100, 0, 0);
        ticking.run(1);
        ticking.exchange(0, 1, 1, 0);
        CHECKS.due("20 one tick each", 0.0, () -> ticking.relativeDrift(0));
        ticking.run(10000);
        ticking.exchange(0, 1, 1, 0);
        CHECKS.dueThrow("20 only the initiator ticks", ARITHMETIC, ticking, () -> ticking.relativeDrift(1));
        ticking.run(20000);
        ticking.exchange(1, 0, 1, 0);
        CHECKS.due("20 only the responder ticks", -1000000.0, () -> ticking.relativeDrift(2));
    }

    private static void promise21Calibrate() {
        RangingNet net = new RangingNet();
        net.addNode(0, 0, 0, 0, 0);
        net.addNode(10, 0, 0, 0, 0);
        net.addNode(0, 10, 0, 0, 0);
        net.addNode(500, 500, 0, 0, 0);
        CHECKS.dueThrow("21 none", STATE, net, () -> net.calibrate(0, 1, 2));
        net.exchange(1, 0, 3, 3);
        net.exchange(0, 2, 3, 3);
        CHECKS.dueThrow("21 one missing", STATE, net, () -> net.calibrate(0, 1, 2));
        CHECKS.dueThrow("21 one missing", STATE, net, () -> net.calibrate(1, 2, 0));
        CHECKS.dueThrow("21 one missing", STATE, net, () -> net.calibrate(2, 0, 1));
        net.exchange(2, 1, 3, 3);
        net.assume(0, 77);
        CHECKS.due("21 no delays", 0, () -> net.calibrate(2, 0, 1));
        CHECKS.due("21 replaced", 0, () -> net.assumed(0));
        net.move(0, 0, 1);
        CHECKS.due("21 halves rounded down", -1, () -> net.calibrate(0, 1, 2));
        CHECKS.due("21 1 / 2", 0, () -> net.assumed(0));
        CHECKS.due("21 -1 / 2", -1, () -> net.assumed(1));
        CHECKS.due("21 1 / 2", 0, () -> net.assumed(2));
        CHECKS.due("21 undoable", 3, net::undo);
        CHECKS.due("21 the third rounded down", -1, () -> net.calibrate(2, 0, 1));
        CHECKS.due("21 the first rounded down", -1, () -> net.calibrate(1, 2, 0));
        net.undo();
        net.undo();
        CHECKS.due("21 undone", 0, () -> net.assumed(1));
        net.move(0, 0, 11);
        net.exchange(0, 1, 3, 3);
        CHECKS.due("21 the latest exchange", 3, () -> net.calibrate(1, 0, 2));
        CHECKS.due("21 9 / 2", 4, () -> net.assumed(0));
        CHECKS.due("21 -9 / 2", -5, () -> net.assumed(1));
        CHECKS.due("21 9 / 2", 4, () -> net.assumed(2));
        for (int node : new int[] {-1, 4, LOW, HIGH}) {
            CHECKS.dueThrow("21 no node", NO_SUCH, net, () -> net.calibrate(node, 1, 2));
            CHECKS.dueThrow("21 no node", NO_SUCH, net, () -> net.calibrate(1, node, 2));
            CHECKS.dueThrow("21 no node first", NO_SUCH, net, () -> net.calibrate(1, 1, node));
        }
        CHECKS.dueThrow("21 not different", ARGUMENT, net, () -> net.calibrate(1, 1, 2));
        CHECKS.dueThrow("21 not different", ARGUMENT, net, () -> net.calibrate(1, 2, 1));
        CHECKS.dueThrow("21 not different", ARGUMENT, net, () -> net.calibrate(2, 1, 1));
        CHECKS.dueThrow("21 argument before state", ARGUMENT, net, () -> net.calibrate(3, 3, 1));
        CHECKS.dueThrow("21 one never met", STATE, net, () -> net.calibrate(0, 1, 3));
    }

    private static RangingNet netForFix(int x, int y) {
        RangingNet net = new RangingNet();
        net.addNode(0, 0, 0, 0, 0);
        net.addNode(100, 0, 0, 0, 0);
        net.addNode(0, 100, 0, 0, 0);
        net.addNode(x, y, 0, 0, 0);
        net.exchange(3, 0, 1, 1);
        net.exchange(1, 3, 1, 1);
        net.exchange(3, 2, 1, 1);
        return net;
    }

    private static void promise22Fix() {
        RangingNet net = netForFix(30, 40);
        for (int method = 0; method <= 2; method++) {
            int m = method;
            for (int anchors : new int[] {12, 21, 102, 120, 201, 210}) {
                CHECKS.due("22 X " + anchors, 30, () -> net.fix(3, anchors, m, 0));
                CHECKS.due("22 Y " + anchors, 40, () -> net.fix(3, anchors, m, 1));
            }
        }
        RangingNet below = netForFix(-30, -40);
        for (int anchors : new int[] {12, 21}) {
            CHECKS.due("22 X rounded down", -30, () -> below.fix(3, anchors, 2, 0));
            CHECKS.due("22 Y rounded down", -40, () -> below.fix(3, anchors, 2, 1));
        }
        net.move(3, 900, 900);
        CHECKS.due("22 the node's position plays no part", 30, () -> net.fix(3, 12, 0, 0));
        net.assume(3, 10);
        CHECKS.due("22 assumed delays", 33, () -> net.fix(3, 12, 0, 0));
        net.assume(3, 0);
        net.move(2, 0, 200);
        CHECKS.due("22 the anchor's position now", 95, () -> net.fix(3, 12, 0, 1));
        for (int wrong : new int[] {-1, 4, LOW, HIGH}) {
            CHECKS.dueThrow("22 no node", NO_SUCH, net, () -> net.fix(wrong, 12, 3, 0));
        }
        for (int wrong : new int[] {-1, 1000, 1012, LOW, HIGH, -12, 412, 42, 14, 999}) {
            CHECKS.dueThrow("22 no anchors", NO_SUCH, net, () -> net.fix(3, wrong, 0, 2));
        }
        for (int wrong : new int[] {312, 132, 123, 112, 121, 211, 0, 11}) {
            CHECKS.dueThrow("22 not different", ARGUMENT, net, () -> net.fix(3, wrong, 0, 0));
        }
        for (int wrong : new int[] {-1, 3, LOW, HIGH}) {
            CHECKS.dueThrow("22 method", ARGUMENT, net, () -> net.fix(3, 12, wrong, 0));
        }
        for (int wrong : new int[] {-1, 2, LOW, HIGH}) {
            CHECKS.dueThrow("22 axis", ARGUMENT, net, () -> net.fix(3, 12, 0, wrong));
            CHECKS.dueThrow("22 axis before a missing range", ARGUMENT, net, () -> net.fix(0, 123, 0, wrong));
        }
        CHECKS.dueThrow("22 missing ranges", STATE, net, () -> net.fix(0, 123, 0, 0));
        CHECKS.dueThrow("22 missing ranges", STATE, net, () -> net.fix(0, 312, 0, 0));
        CHECKS.due("22 not undoable", 3, net::undo);
    }

    private static void promise22FixWithoutAnswer() {
        RangingNet net = netForFix(0, -1000);
        net.move(2, 600, 0);
        CHECKS.dueThrow("22 in one line", ARITHMETIC, net, () -> net.fix(3, 12, 0, 0));
        CHECKS.dueThrow("22 in one line", ARITHMETIC, net, () -> net.fix(3, 12, 0, 1));
        CHECKS.dueThrow("22 missing before one line", STATE, net, () -> net.fix(0, 123, 0, 0));
        net.move(1, 1, 1000);
        net.move(2, 1, 999);
        net.exchange(3, 1, 1, 1);
        net.exchange(3, 2, 1, 1);
        net.assume(1, -1000);
        net.assume(2, 1000);
        CHECKS.dueThrow("22 X does not fit", ARITHMETIC, net, () -> net.fix(3, 12, 0, 0));
        CHECKS.due("22 Y fits", -4000000, () -> net.fix(3, 12, 0, 1));
        net.assume(1, 1000);
        net.assume(2, -1000);
        CHECKS.dueThrow("22 X does not fit at the other end", ARITHMETIC, net, () -> net.fix(3, 12, 0, 0));
        CHECKS.due("22 Y fits", 3998000, () -> net.fix(3, 12, 0, 1));
    }

    /** Assumed delays found by search, so that X is just the last int or just the first number beyond. */
    private static void promise22FixAtTheEndsOfTheInts() {
        RangingNet net = netForFix(0, -1000);
        net.move(1, 1, 999);
        net.move(2, 1, 998);
        net.exchange(3, 1, 1, 1);
        net.exchange(3, 2, 1, 1);
        assumeAll(net, 504, -782, 147);
        CHECKS.due("22 greatest int", HIGH, () -> net.fix(3, 12, 0, 0));
        assumeAll(net, -744, 655, -473);
        CHECKS.due("22 least int", LOW, () -> net.fix(3, 12, 0, 0));
        assumeAll(net, -123, 684, -457);
        CHECKS.dueThrow("22 just below the ints", ARITHMETIC, net, () -> net.fix(3, 12, 0, 0));
        net.move(1, 1, 1000);
        net.move(2, 1, 999);
        net.exchange(3, 1, 1, 1);
        net.exchange(3, 2, 1, 1);
        assumeAll(net, 750, -302, 1000);
        CHECKS.dueThrow("22 just above the ints", ARITHMETIC, net, () -> net.fix(3, 12, 0, 0));
    }

    private static void assumeAll(RangingNet net, int first, int second, int third) {
        net.assume(0, first);
        net.assume(1, second);
        net.assume(2, third);
    }

    private static void promise23Undo() {
        RangingNet net = new RangingNet();
        CHECKS.dueThrow("23 nothing saved", STATE, net, net::undo);
        net.addNode(0, 0, 0, 0, 0);
        for (int i = 1; i <= 6; i++) {
            net.assume(0, i);
        }
        for (int i = 5; i >= 2; i--) {
            CHECKS.due("23 states left", i - 2, net::undo);
            CHECKS.due("23 restored", i, () -> net.assumed(0));
        }
        CHECKS.dueThrow("23 at most 4 states", STATE, net, net::undo);
        CHECKS.due("23 stays", 2, () -> net.assumed(0));
        net.assume(0, 50);
        net.assume(0, 60);
        CHECKS.due("23 saved anew", 1, net::undo);
        CHECKS.due("23 restored", 50, () -> net.assumed(0));
        net.assume(0, 70);
        CHECKS.due("23 saved over what was undone", 1, net::undo);
        CHECKS.due("23 restored", 50, () -> net.assumed(0));
        CHECKS.due("23 the first", 0, net::undo);
        CHECKS.due("23 restored", 2, () -> net.assumed(0));
    }

    private static void promise23WhatIsUndoable() {
        RangingNet net = netForFix(30, 40);
        net.exchange(0, 1, 1, 1);
        net.exchange(0, 2, 1, 1);
        net.exchange(1, 2, 1, 1);
        Checks.Call[] undoable = {
            () -> net.addNode(0, 0, 0, 0, 0), () -> net.move(0, 0, 0), () -> net.assume(0, 0),
            () -> net.exchange(0, 1, 0, 0), () -> net.plan(0, 0, 1, 0, 0), () -> net.run(0),
            () -> net.calibrate(0, 1, 2)};
        for (int i = 0; i < undoable.length; i++) {
            Checks.Call call = undoable[i];
            // Four states are saved before the call and after it; its undo leaves three, and the digest ends with that.
            net.assume(0, 100 + i);
            long before = net.digest();
            call.answer();
            CHECKS.due("23 saved by the call", 3, net::undo);
            CHECKS.due("23 everything is back", before - 1, net::digest);
        }
        Checks.Call[] looks = {
            () -> net.assumed(0), () -> net.distance(0, 1), () -> net.counter(0, 5), net::nextPlanned, net::now,
            net::exchanges, () -> net.stamp(0, 1), () -> net.party(0, 0), () -> net.range(0, 0),
            () -> net.latestRange(0, 3, 0), () -> net.worstError(0), () -> net.meanError(0),
            () -> net.relativeDrift(0), () -> net.fix(3, 12, 0, 0), net::digest};
        for (Checks.Call call : looks) {
            long before = net.digest();
            call.answer();
            CHECKS.due("23 a look saves nothing", before, net::digest);
        }
    }

    private static void promise24Digest() {
        RangingNet net = new RangingNet();
        CHECKS.due("24 empty", hash(0, 0, 0, 0, 0), net::digest);
        net.addNode(3, -4, 100, 1048570, 9);
        CHECKS.due("24 one node", hash(0, 1, 3, -4, 100, 1048570, 9, 0, 1048570, 0, 0, 1), net::digest);
        net.run(20000);
        CHECKS.due("24 its counter now", hash(20000, 1, 3, -4, 100, 1048570, 9, 0, 19996, 0, 0, 2), net::digest);
        net.undo();
        net.addNode(33, 36, -100, 5, 20);
        net.assume(1, -8);
        net.plan(900, 1, 0, 7, 8);
        net.plan(800, 0, 1, 5, 6);
        net.plan(900, 0, 1, 3, 4);
        net.exchange(1, 0, 100, 200);
        // The way is 20 + 50 + 9 = 79: the messages go at 0, 179 and 458 and come at 79, 258 and 537.
        CHECKS.due("24 everything", hash(537,
                2, 3, -4, 100, 1048570, 9, 0, 531, 33, 36, -100, 5, 20, -8, 541,
                1, 1, 0, 5, 73, 173, 262, 462, 531, 86, 86, 86,
                3, 800, 0, 1, 5, 6, 900, 1, 0, 7, 8, 900, 0, 1, 3, 4,
                4), net::digest);
    }

    private static long hash(long... values) {
        long hash = 2797;
        for (long value : values) {
            hash = 31 * hash + value;
        }
        return hash;
    }
}
