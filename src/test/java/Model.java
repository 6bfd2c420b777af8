import java.math.BigInteger;
import java.util.ArrayList;
import java.util.List;

/**
 * The document said a second time, slowly and in another way, for ModelTest to compare with: big numbers, unsorted
 * plans, whole copies for undo.
 */
final class Model {
    static final class Node {
        int x;
        int y;
        int drift;
        int offset;
        int delay;
        int assumed;

        Node copy() {
            Node other = new Node();
            other.x = x;
            other.y = y;
            other.drift = drift;
            other.offset = offset;
            other.delay = delay;
            other.assumed = assumed;
            return other;
        }
    }

    /** Never changed once made. */
    static final class Done {
        int initiator;
        int responder;
        final int[] p = new int[7];
    }

    /** Never changed once made. */
    static final class Waiting {
        int time;
        int initiator;
        int responder;
        int reply1;
        int reply2;
    }

    static final class World {
        long now;
        final List<Node> nodes = new ArrayList<>();
        final List<Done> done = new ArrayList<>();
        /** In the order of planning. */
        final List<Waiting> waiting = new ArrayList<>();

        World copy() {
            World other = new World();
            other.now = now;
            for (Node node : nodes) {
                other.nodes.add(node.copy());
            }
            other.done.addAll(done);
            other.waiting.addAll(waiting);
            return other;
        }
    }

    private World world = new World();
    private final List<World> saved = new ArrayList<>();

    /** Not of the face: how many nodes there are. */
    int nodes() {
        return world.nodes.size();
    }

    int addNode(int x, int y, int drift, int offset, int delay) {
        argument(x >= -1000 && x <= 1000 && y >= -1000 && y <= 1000);
        argument(drift >= -100 && drift <= 100);
        argument(offset >= 0 && offset <= 1048575);
        argument(delay >= 0 && delay <= 200);
        state(world.nodes.size() < 6);
        save();
        Node node = new Node();
        node.x = x;
        node.y = y;
        node.drift = drift;
        node.offset = offset;
        node.delay = delay;
        world.nodes.add(node);
        return world.nodes.size() - 1;
    }

    int move(int node, int x, int y) {
        Node moved = node(node);
        argument(x >= -1000 && x <= 1000 && y >= -1000 && y <= 1000);
        save();
        moved = node(node);
        int way = length(moved.x, moved.y, x, y);
        moved.x = x;
        moved.y = y;
        return way;
    }

    int assume(int node, int delay) {
        node(node);
        argument(delay >= -1000 && delay <= 1000);
        save();
        int previous = node(node).assumed;
        node(node).assumed = delay;
        return previous;
    }

    int assumed(int node) {
        return node(node).assumed;
    }

    int distance(int a, int b) {
        return length(node(a).x, node(a).y, node(b).x, node(b).y);
    }

    int counter(int node, int time) {
        node(node);
        argument(time >= 0 && time <= 1000000000);
        return count(node, time);
    }

    int exchange(int a, int b, int reply1, int reply2) {
        node(a);
        node(b);
        argument(a != b && isReply(reply1) && isReply(reply2));
        state(world.done.size() < 40);
        save();
        carryOut(world.now, a, b, reply1, reply2);
        return world.done.size() - 1;
    }

    int plan(int time, int a, int b, int reply1, int reply2) {
        node(a);
        node(b);
        argument(a != b && time >= 0 && time <= 900000000 && isReply(reply1) && isReply(reply2));
        state(world.waiting.size() < 20);
        save();
        Waiting plan = new Waiting();
        plan.time = time;
        plan.initiator = a;
        plan.responder = b;
        plan.reply1 = reply1;
        plan.reply2 = reply2;
        world.waiting.add(plan);
        return world.waiting.size();
    }

    int nextPlanned() {
        return world.waiting.isEmpty() ? -1 : next(world.waiting).time;
    }

    int run(int time) {
        argument(time >= 0 && time <= 900000000);
        save();
        int carriedOut = 0;
        while (!world.waiting.isEmpty() && next(world.waiting).time <= time) {
            Waiting plan = next(world.waiting);
            world.waiting.remove(plan);
            if (world.done.size() < 40) {
                carryOut(Math.max(plan.time, world.now), plan.initiator, plan.responder, plan.reply1, plan.reply2);
                carriedOut++;
            }
        }
        if (world.now < time) {
            world.now = time;
        }
        return carriedOut;
    }

    long now() {
        return world.now;
    }

    int exchanges() {
        return world.done.size();
    }

    int stamp(int exchange, int which) {
        Done done = done(exchange);
        argument(which >= 1 && which <= 6);
        return done.p[which];
    }

    int party(int exchange, int which) {
        Done done = done(exchange);
        argument(which == 0 || which == 1);
        return which == 0 ? done.initiator : done.responder;
    }

    int range(int exchange, int method) {
        Done done = done(exchange);
        argument(method >= 0 && method <= 2);
        return rangeOf(done, method);
    }

    int latestRange(int a, int b, int method) {
        node(a);
        node(b);
        argument(method >= 0 && method <= 2);
        return rangeOf(latest(a, b), method);
    }

    int worstError(int method) {
        argument(method >= 0 && method <= 2);
        int worst = -1;
        for (Done done : world.done) {
            worst = Math.max(worst, Math.abs(rangeOf(done, method) - distance(done.initiator, done.responder)));
        }
        return worst;
    }

    double meanError(int method) {
        argument(method >= 0 && method <= 2);
        if (world.done.isEmpty()) {
            return 0.0;
        }
        long sum = 0;
        for (Done done : world.done) {
            sum += rangeOf(done, method) - distance(done.initiator, done.responder);
        }
        return (double) sum / (double) world.done.size();
    }

    double relativeDrift(int exchange) {
        int[] p = done(exchange).p;
        int v = ticks(p[3], p[6]) + ticks(p[2], p[3]);
        if (v == 0) {
            throw new ArithmeticException();
        }
        double u = ticks(p[1], p[4]) + ticks(p[4], p[5]);
        return (u / v - 1.0) * 1000000.0;
    }

    int calibrate(int a, int b, int c) {
        node(a);
        node(b);
        node(c);
        argument(a != b && b != c && a != c);
        int[][] s = new int[6][6];
        int[] three = {a, b, c};
        for (int i : three) {
            for (int k : three) {
                if (i != k) {
                    s[i][k] = rawRange(latest(i, k), 2) - distance(i, k);
                }
            }
        }
        save();
        node(a).assumed = floor(s[a][b] + s[a][c] - s[b][c], 2);
        node(b).assumed = floor(s[b][a] + s[b][c] - s[a][c], 2);
        node(c).assumed = floor(s[c][a] + s[c][b] - s[a][b], 2);
        return node(a).assumed + node(b).assumed + node(c).assumed;
    }

    int fix(int node, int anchors, int method, int axis) {
        node(node);
        if (anchors < 0 || anchors > 999) {
            throw new IndexOutOfBoundsException();
        }
        int[] at = {anchors / 100, anchors % 100 / 10, anchors % 10};
        for (int anchor : at) {
            node(anchor);
        }
        argument(at[0] != at[1] && at[1] != at[2] && at[0] != at[2]);
        argument(at[0] != node && at[1] != node && at[2] != node);
        argument(method >= 0 && method <= 2);
        argument(axis == 0 || axis == 1);
        BigInteger[][] rows = new BigInteger[2][];
        for (int i = 1; i <= 2; i++) {
            rows[i - 1] = equation(node, at[0], at[i], method);
        }
        BigInteger determinant = cross(rows, 0, 1);
        if (determinant.signum() == 0) {
            throw new ArithmeticException();
        }
        BigInteger top = axis == 0 ? cross(rows, 2, 1) : cross(rows, 0, 2);
        BigInteger value = floor(top, determinant);
        if (value.bitLength() > 31) {
            throw new ArithmeticException();
        }
        return value.intValue();
    }

    int undo() {
        state(!saved.isEmpty());
        world = saved.remove(saved.size() - 1);
        return saved.size();
    }

    long digest() {
        List<Long> values = new ArrayList<>();
        values.add(world.now);
        values.add((long) world.nodes.size());
        for (int i = 0; i < world.nodes.size(); i++) {
            Node node = world.nodes.get(i);
            addAll(values, node.x, node.y, node.drift, node.offset, node.delay, node.assumed, count(i, world.now));
        }
        values.add((long) world.done.size());
        for (Done done : world.done) {
            addAll(values, done.initiator, done.responder);
            addAll(values, done.p[1], done.p[2], done.p[3], done.p[4], done.p[5], done.p[6]);
            addAll(values, rangeOf(done, 0), rangeOf(done, 1), rangeOf(done, 2));
        }
        values.add((long) world.waiting.size());
        List<Waiting> left = new ArrayList<>(world.waiting);
        while (!left.isEmpty()) {
            Waiting plan = next(left);
            left.remove(plan);
            addAll(values, plan.time, plan.initiator, plan.responder, plan.reply1, plan.reply2);
        }
        values.add((long) saved.size());
        long hash = 2797;
        for (long value : values) {
            hash = 31 * hash + value;
        }
        return hash;
    }

    private static void addAll(List<Long> values, int... more) {
        for (int value : more) {
            values.add((long) value);
        }
    }

    private void carryOut(long begin, int a, int b, int reply1, int reply2) {
        int way = node(a).delay + distance(a, b) + node(b).delay;
        Done done = new Done();
        done.initiator = a;
        done.responder = b;
        long t = begin;
        done.p[1] = count(a, t);
        t += way;
        done.p[2] = count(b, t);
        t += reply1;
        done.p[3] = count(b, t);
        t += way;
        done.p[4] = count(a, t);
        t += reply2;
        done.p[5] = count(a, t);
        t += way;
        done.p[6] = count(b, t);
        world.done.add(done);
        world.now = t;
    }

    private int count(int node, long time) {
        BigInteger million = BigInteger.valueOf(1000000);
        BigInteger scaled = BigInteger.valueOf(time).multiply(BigInteger.valueOf(1000000 + node(node).drift));
        return floor(scaled, million).add(BigInteger.valueOf(node(node).offset))
                .mod(BigInteger.valueOf(1048576)).intValue();
    }

    private int rawRange(Done done, int method) {
        int[] p = done.p;
        int roundA = ticks(p[1], p[4]);
        int replyB = ticks(p[2], p[3]);
        int roundB = ticks(p[3], p[6]);
        int replyA = ticks(p[4], p[5]);
        if (method == 0) {
            return floor(roundA - replyB, 2);
        }
        if (method == 1) {
            return floor(roundA - replyB + roundB - replyA, 4);
        }
        int divisor = roundA + roundB + replyA + replyB;
        if (divisor == 0) {
            return 0;
        }
        BigInteger top = BigInteger.valueOf(roundA).multiply(BigInteger.valueOf(roundB))
                .subtract(BigInteger.valueOf(replyA).multiply(BigInteger.valueOf(replyB)));
        return floor(top, BigInteger.valueOf(divisor)).intValueExact();
    }

    private int rangeOf(Done done, int method) {
        return rawRange(done, method) - node(done.initiator).assumed - node(done.responder).assumed;
    }

    private Done latest(int a, int b) {
        Done latest = null;
        for (Done done : world.done) {
            boolean there = done.initiator == a && done.responder == b;
            boolean back = done.initiator == b && done.responder == a;
            if (there || back) {
                latest = done;
            }
        }
        state(latest != null);
        return latest;
    }

    /** The numbers before X and Y, and the right side. */
    private BigInteger[] equation(int node, int i, int j, int method) {
        BigInteger ri = BigInteger.valueOf(rangeOf(latest(node, i), method));
        BigInteger rj = BigInteger.valueOf(rangeOf(latest(node, j), method));
        long xi = node(i).x;
        long yi = node(i).y;
        long xj = node(j).x;
        long yj = node(j).y;
        BigInteger right = ri.pow(2).subtract(rj.pow(2))
                .add(BigInteger.valueOf(xj * xj - xi * xi + yj * yj - yi * yi));
        return new BigInteger[] {BigInteger.valueOf(2 * (xj - xi)), BigInteger.valueOf(2 * (yj - yi)), right};
    }

    private static BigInteger cross(BigInteger[][] rows, int left, int right) {
        return rows[0][left].multiply(rows[1][right]).subtract(rows[1][left].multiply(rows[0][right]));
    }

    private static Waiting next(List<Waiting> waiting) {
        Waiting first = waiting.get(0);
        for (Waiting plan : waiting) {
            if (plan.time < first.time) {
                first = plan;
            }
        }
        return first;
    }

    private static int ticks(int from, int to) {
        return to >= from ? to - from : to - from + 1048576;
    }

    private static int length(int x1, int y1, int x2, int y2) {
        long square = (long) (x1 - x2) * (x1 - x2) + (long) (y1 - y2) * (y1 - y2);
        return BigInteger.valueOf(square).sqrt().intValue();
    }

    private static int floor(int top, int bottom) {
        return floor(BigInteger.valueOf(top), BigInteger.valueOf(bottom)).intValue();
    }

    private static BigInteger floor(BigInteger top, BigInteger bottom) {
        BigInteger[] parts = top.divideAndRemainder(bottom);
        boolean roundedUp = parts[1].signum() != 0 && parts[1].signum() != bottom.signum();
        return roundedUp ? parts[0].subtract(BigInteger.ONE) : parts[0];
    }

    private static boolean isReply(int reply) {
        return reply >= 0 && reply <= 400000;
    }

    private void save() {
        saved.add(world.copy());
        if (saved.size() > 4) {
            saved.remove(0);
        }
    }

    private Node node(int node) {
        if (node < 0 || node >= world.nodes.size()) {
            throw new IndexOutOfBoundsException();
        }
        return world.nodes.get(node);
    }

    private Done done(int exchange) {
        if (exchange < 0 || exchange >= world.done.size()) {
            throw new IndexOutOfBoundsException();
        }
        return world.done.get(exchange);
    }

    private static void argument(boolean right) {
        if (!right) {
            throw new IllegalArgumentException();
        }
    }

    private static void state(boolean right) {
        if (!right) {
            throw new IllegalStateException();
        }
    }
}
