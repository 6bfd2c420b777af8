import java.util.Map;
import java.util.Random;
import java.util.TreeMap;

/** Long runs of mixed calls, right and wrong ones, each answer and digest compared with the Model's. */
public final class ModelTest {
    private static final int RUNS = 2400;
    /** What later calls answer is free. */
    private static final int CALLS = 512;
    private static final int[] EXTREMES = {
        Integer.MIN_VALUE, Integer.MIN_VALUE + 1, -1048577, -1001, -1000, -101, -100, -1, 0, 1, 2, 5, 6, 7, 10, 40, 100,
        101, 200, 201, 999, 1000, 1001, 400000, 400001, 1048575, 1048576, 900000000, 900000001, 1000000000, 1000000001,
        Integer.MAX_VALUE - 1, Integer.MAX_VALUE};

    private static final Checks CHECKS = new Checks();
    /** How often each call answered, or threw what: a run of nothing but refusals would prove little. */
    private static final Map<String, Integer> SEEN = new TreeMap<>();

    private final RangingNet net = new RangingNet();
    private final Model model = new Model();
    private final Random random;
    private final int run;
    /** Few calls of the run are undone or run, so that the record and the plans fill up. */
    private final boolean filling;
    /** Few places, no delays: anchors stand in one line, nodes on one spot. */
    private final boolean crowded;
    private final boolean drifting;

    private ModelTest(int run) {
        this.run = run;
        this.random = new Random(run);
        this.filling = run % 2 == 0;
        this.crowded = run % 5 == 0;
        this.drifting = run % 3 != 0;
    }

    public static void main(String[] args) {
        for (int run = 0; run < RUNS; run++) {
            new ModelTest(run).compare();
        }
        if (args.length > 0) {
            System.out.println(SEEN);
        }
        requireSeen();
        CHECKS.finish("ModelTest");
    }

    private static void requireSeen() {
        String[] wanted = {
            "addNode answer", "addNode IllegalArgumentException", "addNode IllegalStateException",
            "move answer", "move IndexOutOfBoundsException", "move IllegalArgumentException",
            "assume answer", "assume IndexOutOfBoundsException", "assume IllegalArgumentException",
            "exchange answer", "exchange IndexOutOfBoundsException", "exchange IllegalArgumentException",
            "exchange IllegalStateException", "plan answer", "plan IndexOutOfBoundsException",
            "plan IllegalArgumentException", "plan IllegalStateException", "run answer",
            "run IllegalArgumentException", "latestRange answer", "latestRange IllegalStateException",
            "relativeDrift answer", "relativeDrift ArithmeticException", "calibrate answer",
            "calibrate IllegalArgumentException", "calibrate IllegalStateException", "fix answer",
            "fix IndexOutOfBoundsException", "fix IllegalArgumentException", "fix IllegalStateException",
            "fix ArithmeticException", "undo answer", "undo IllegalStateException"};
        for (String each : wanted) {
            CHECKS.due("ModelTest sees: " + each, true, () -> SEEN.getOrDefault(each, 0) >= 50);
        }
    }

    private void compare() {
        for (int call = 0; call < CALLS; call += 2) {
            String where = "run " + run + ", call " + call + ": ";
            step(where);
            both(where, "digest()", net::digest, model::digest);
        }
    }

    private void step(String where) {
        if (model.nodes() < 4 && random.nextInt(3) == 0) {
            addNode(where);
            return;
        }
        int pick = random.nextInt(100);
        if (pick < 20) {
            change(where);
        } else if (pick < (filling ? 65 : 45)) {
            exchangeOrPlan(where);
        } else if (pick < 75) {
            look(where);
        } else {
            measure(where);
        }
    }

    private void change(String where) {
        switch (random.nextInt(6)) {
            case 0:
                addNode(where);
                break;
            case 1: {
                int node = node();
                int x = coordinate();
                int y = coordinate();
                both(where, "move(" + node + ", " + x + ", " + y + ")",
                        () -> net.move(node, x, y), () -> model.move(node, x, y));
                break;
            }
            case 2: {
                int node = node();
                int delay = some(random.nextInt(2001) - 1000);
                both(where, "assume(" + node + ", " + delay + ")",
                        () -> net.assume(node, delay), () -> model.assume(node, delay));
                break;
            }
            case 3: {
                int a = node();
                int b = besides(a);
                int c = besides(b);
                both(where, "calibrate(" + a + ", " + b + ", " + c + ")",
                        () -> net.calibrate(a, b, c), () -> model.calibrate(a, b, c));
                break;
            }
            case 4: {
                int time = filling && random.nextInt(4) != 0 ? -1 : time();
                both(where, "run(" + time + ")", () -> net.run(time), () -> model.run(time));
                break;
            }
            default:
                if (!filling || random.nextInt(8) == 0) {
                    both(where, "undo()", net::undo, model::undo);
                }
        }
    }

    private void addNode(String where) {
        int x = coordinate();
        int y = coordinate();
        int drift = some(drifting ? random.nextInt(201) - 100 : 0);
        int offset = some(random.nextInt(1048576));
        int delay = some(crowded ? 0 : random.nextInt(201));
        both(where, "addNode(" + x + ", " + y + ", " + drift + ", " + offset + ", " + delay + ")",
                () -> net.addNode(x, y, drift, offset, delay), () -> model.addNode(x, y, drift, offset, delay));
    }

    private void exchangeOrPlan(String where) {
        int a = node();
        int b = besides(a);
        int reply1 = reply();
        int reply2 = reply();
        String rest = a + ", " + b + ", " + reply1 + ", " + reply2 + ")";
        if (random.nextInt(5) < 3) {
            both(where, "exchange(" + rest, () -> net.exchange(a, b, reply1, reply2),
                    () -> model.exchange(a, b, reply1, reply2));
        } else {
            int time = time();
            both(where, "plan(" + time + ", " + rest, () -> net.plan(time, a, b, reply1, reply2),
                    () -> model.plan(time, a, b, reply1, reply2));
        }
    }

    private void look(String where) {
        int node = node();
        int other = besides(node);
        int exchange = recorded();
        int which = some(random.nextInt(8));
        int side = some(random.nextInt(2));
        int time = some(random.nextInt(1000000001));
        switch (random.nextInt(8)) {
            case 0:
                both(where, "assumed(" + node + ")", () -> net.assumed(node), () -> model.assumed(node));
                break;
            case 1:
                both(where, "distance(" + node + ", " + other + ")",
                        () -> net.distance(node, other), () -> model.distance(node, other));
                break;
            case 2:
                both(where, "counter(" + node + ", " + time + ")",
                        () -> net.counter(node, time), () -> model.counter(node, time));
                break;
            case 3:
                both(where, "nextPlanned()", net::nextPlanned, model::nextPlanned);
                break;
            case 4:
                both(where, "now()", net::now, model::now);
                break;
            case 5:
                both(where, "exchanges()", net::exchanges, model::exchanges);
                break;
            case 6:
                both(where, "stamp(" + exchange + ", " + which + ")",
                        () -> net.stamp(exchange, which), () -> model.stamp(exchange, which));
                break;
            default:
                both(where, "party(" + exchange + ", " + side + ")",
                        () -> net.party(exchange, side), () -> model.party(exchange, side));
        }
    }

    private void measure(String where) {
        int node = node();
        int other = besides(node);
        int exchange = recorded();
        int method = some(random.nextInt(3));
        int axis = some(random.nextInt(2));
        int anchors = random.nextInt(20) == 0 ? some(random.nextInt(667)) : anchorsOf(node);
        switch (random.nextInt(9)) {
            case 0:
                both(where, "range(" + exchange + ", " + method + ")",
                        () -> net.range(exchange, method), () -> model.range(exchange, method));
                break;
            case 1:
                both(where, "latestRange(" + node + ", " + other + ", " + method + ")",
                        () -> net.latestRange(node, other, method), () -> model.latestRange(node, other, method));
                break;
            case 2:
                both(where, "worstError(" + method + ")",
                        () -> net.worstError(method), () -> model.worstError(method));
                break;
            case 3:
                both(where, "meanError(" + method + ")", () -> net.meanError(method), () -> model.meanError(method));
                break;
            case 4:
                both(where, "relativeDrift(" + exchange + ")",
                        () -> net.relativeDrift(exchange), () -> model.relativeDrift(exchange));
                break;
            default:
                both(where, "fix(" + node + ", " + anchors + ", " + method + ", " + axis + ")",
                        () -> net.fix(node, anchors, method, axis), () -> model.fix(node, anchors, method, axis));
        }
    }

    private void both(String where, String call, Checks.Call real, Checks.Call due) {
        Object answer;
        try {
            answer = due.answer();
        } catch (RuntimeException thrown) {
            answer = thrown.getClass();
        }
        CHECKS.due(where + call, answer, real);
        String kindOfAnswer = answer instanceof Class ? ((Class<?>) answer).getSimpleName() : "answer";
        SEEN.merge(call.substring(0, call.indexOf('(')) + " " + kindOfAnswer, 1, Integer::sum);
    }

    private int some(int ordinary) {
        return random.nextInt(25) == 0 ? EXTREMES[random.nextInt(EXTREMES.length)] : ordinary;
    }

    private int node() {
        int there = model.nodes();
        return some(random.nextInt(there == 0 || random.nextInt(20) == 0 ? 7 : there));
    }

    /** Mostly another node, sometimes the same. */
    private int besides(int node) {
        int there = model.nodes();
        return there < 2 || random.nextInt(20) == 0 ? node() : (node + 1 + random.nextInt(there - 1)) % there;
    }

    /** Three nodes in turn behind the node, in some order. */
    private int anchorsOf(int node) {
        int there = Math.max(1, model.nodes());
        int i = Math.floorMod(node + 1, there);
        int j = Math.floorMod(node + 2, there);
        int k = Math.floorMod(node + 3, there);
        return random.nextBoolean() ? 100 * i + 10 * j + k : 100 * k + 10 * i + j;
    }

    private int recorded() {
        int there = model.exchanges();
        return some(random.nextInt(there == 0 || random.nextInt(20) == 0 ? 41 : there));
    }

    /** Sometimes few places, so that anchors stand in one line and nodes on one spot. */
    private int coordinate() {
        return some(crowded ? random.nextInt(3) - 1 : random.nextInt(2001) - 1000);
    }

    private int reply() {
        return some(random.nextInt(crowded ? 2 : 4) == 0 ? 0 : random.nextInt(random.nextInt(2) == 0 ? 50 : 400001));
    }

    private int time() {
        return some(random.nextInt(random.nextInt(10) == 0 ? 900000001 : 5000000));
    }
}
