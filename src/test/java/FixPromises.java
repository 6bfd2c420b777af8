import java.util.function.Function;
import java.util.function.Supplier;

/** The sentences of the promises 21 and 22: calibration and fixes. */
final class FixPromises {
    private static final String NO_NODE = "Throws `IndexOutOfBoundsException` if there is no such node";
    private static final int[][] ORDERS = {{0, 1, 2}, {0, 2, 1}, {1, 0, 2}, {1, 2, 0}, {2, 0, 1}, {2, 1, 0}};

    private FixPromises() {
    }

    static void tell(Sentences s) {
        s.promise(21, "Calibrates three nodes.", FixPromises::calibrates);
        s.promise(21, "Undoable.", c -> {
            c.undoable("with a change", FixPromises::delayed, net -> net.calibrate(0, 1, 2));
            c.undoable("without a change", Nets::triangle, net -> net.calibrate(2, 1, 0));
        });
        s.promise(21, "- `a`: number of a node",
                c -> calibrateNumbers(c, (net, node, others) -> net.calibrate(node, others[0], others[1])));
        s.promise(21, "- `b`: number of a node",
                c -> calibrateNumbers(c, (net, node, others) -> net.calibrate(others[0], node, others[1])));
        s.promise(21, "- `c`: number of a node",
                c -> calibrateNumbers(c, (net, node, others) -> net.calibrate(others[0], others[1], node)));
        s.promise(21, "Returns the sum of the new assumed delays of the three nodes.", FixPromises::calibrateReturns);
        s.promise(21, NO_NODE, c -> {
            NodePromises.noSuchNode(c, (net, node) -> net.calibrate(node, 0, 1));
            NodePromises.noSuchNode(c, (net, node) -> net.calibrate(0, node, 1));
            NodePromises.noSuchNode(c, (net, node) -> net.calibrate(0, 1, node));
            NodePromises.noSuchNode(c, (net, node) -> net.calibrate(0, 0, node));
        });
        s.promise(21, "Throws `IllegalArgumentException` if the three nodes are not all different", c -> {
            int[][] wrong = {{1, 1, 2}, {1, 2, 1}, {2, 1, 1}, {1, 1, 1}, {3, 3, 0}, {3, 0, 3}, {0, 3, 3}};
            for (int[] w : wrong) {
                c.refused("two are the same", Checks.ARGUMENT, Nets::triangle, net -> net.calibrate(w[0], w[1], w[2]));
            }
        });
        s.promise(21, "Throws `IllegalStateException` if for some two of them no exchange is recorded",
                FixPromises::calibrateWithoutExchange);

        tellFix(s);
    }

    private static void tellFix(Sentences s) {
        s.promise(22, "Returns a coordinate of a fix, with the anchors written as 100 * i + 10 * j + k.", c -> {
            for (int[] o : ORDERS) {
                int anchors = 100 * o[0] + 10 * o[1] + o[2];
                c.look("X from " + anchors, 30, () -> Nets.anchored(30, 40), net -> net.fix(3, anchors, 0, 0));
                c.look("Y from " + anchors, 40, () -> Nets.anchored(30, 40), net -> net.fix(3, anchors, 0, 1));
            }
        });
        s.promise(22, "- `node`: the node whose position is wanted", FixPromises::fixOfEachNode);
        s.promise(22, "- `anchors`: three different nodes, none of them the node itself, written as 100 * i + 10 * j +"
                + " k (0 to 999)", FixPromises::fixFromAnchors);
        s.promise(22, "- `method`: 0 to 2", c -> {
            RangePromises.methods(c, () -> Nets.anchored(30, 40), (net, method) -> net.fix(3, 12, method, 0));
        });
        s.promise(22, "- `axis`: 0 for X, 1 for Y", c -> {
            Supplier<RangingNet> recipe = () -> Nets.anchored(30, 40);
            c.look("X", 30, recipe, net -> net.fix(3, 12, 0, 0));
            c.look("Y", 40, recipe, net -> net.fix(3, 12, 0, 1));
            c.refused("axis -1", Checks.ARGUMENT, recipe, net -> net.fix(3, 12, 0, -1));
            c.refused("axis 2", Checks.ARGUMENT, recipe, net -> net.fix(3, 12, 0, 2));
        });
        s.promise(22, "Returns the coordinate.", FixPromises::leastAndGreatestCoordinate);
        s.promise(22, "Throws `IndexOutOfBoundsException` if there is no such node, or one of the anchors does not"
                + " exist, or anchors is negative or greater than 999", FixPromises::fixWithoutNode);
        s.promise(22, "Throws `IllegalArgumentException` if the four nodes are not all different, or method or axis is"
                + " out of range", FixPromises::fixWithWrongArguments);
        s.promise(22, "Throws `IllegalStateException` if a range that is needed is missing",
                FixPromises::fixWithoutRange);
        s.promise(22, "Throws `ArithmeticException` if the determinant is 0, or the coordinate does not fit into an"
                + " int", FixPromises::fixWithoutAnswer);
    }

    // ---- promise 21

    /** Three nodes with the antenna delays 15, 30 and 45 that have met each other, and a fourth. */
    private static RangingNet delayed() {
        RangingNet net = new RangingNet();
        net.addNode(0, 0, 0, 0, 15);
        net.addNode(600, 0, 0, 0, 30);
        net.addNode(0, 800, 0, 0, 45);
        net.addNode(0, 0, 0, 0, 60);
        net.exchange(0, 1, 5, 6);
        net.exchange(0, 2, 5, 6);
        net.exchange(1, 2, 5, 6);
        return net;
    }

    private static void calibrates(Checks c) {
        RangingNet net = delayed();
        net.assume(3, 7);
        net.assume(1, 99);
        net.calibrate(2, 0, 1);
        int[] due = {15, 30, 45, 7};
        for (int node = 0; node < 4; node++) {
            int n = node;
            c.due("assumed of " + n, due[n], () -> net.assumed(n));
        }
        c.due("no error is left", 0, () -> net.worstError(2));
        c.due("exchanges", 3, net::exchanges);
    }

    private interface Calibration {
        int answer(RangingNet net, int node, int[] others);
    }

    private static void calibrateNumbers(Checks c, Calibration call) {
        int[][] others = {{1, 2}, {0, 2}, {0, 1}};
        for (int node = 0; node <= 2; node++) {
            int n = node;
            c.look("assumed of node " + n, 15 * (n + 1), () -> {
                RangingNet net = delayed();
                call.answer(net, n, others[n]);
                return net;
            }, net -> net.assumed(n));
        }
        for (int node : new int[] {-1, 4}) {
            c.refused("node " + node, Checks.NO_SUCH, Nets::triangle, net -> call.answer(net, node, others[0]));
        }
    }

    private static void calibrateReturns(Checks c) {
        c.due("90", 90, () -> delayed().calibrate(0, 1, 2));
        c.due("nothing to spread", 0, () -> Nets.triangle().calibrate(0, 1, 2));
        int[][] due = {{1, -1}, {-1, -2}, {2, 1}, {3, 0}, {4, 2}, {-2, -1}, {-3, -3}};
        for (int[] each : due) {
            for (int[] o : ORDERS) {
                RangingNet net = Nets.triangle();
                net.move(0, 0, each[0]);
                c.due("each of them rounded down, with " + each[0], each[1], () -> net.calibrate(o[0], o[1], o[2]));
            }
        }
    }

    private static void calibrateWithoutExchange(Checks c) {
        int[][] pairs = {{0, 1}, {0, 2}, {1, 2}};
        for (int missing = 0; missing < 3; missing++) {
            int m = missing;
            Supplier<RangingNet> recipe = () -> {
                RangingNet net = Nets.nodes(3);
                for (int i = 0; i < 3; i++) {
                    if (i == m) {
                        net.plan(5000, pairs[i][0], pairs[i][1], 0, 0);
                    } else {
                        net.exchange(pairs[i][0], pairs[i][1], 0, 0);
                    }
                }
                return net;
            };
            for (int[] o : ORDERS) {
                Function<RangingNet, Object> call = net -> net.calibrate(o[0], o[1], o[2]);
                c.refused("one of three is missing", Checks.STATE, recipe, call);
                c.taken("now it is carried out", () -> {
                    RangingNet net = recipe.get();
                    net.run(5000);
                    return net;
                }, call);
            }
        }
        c.refused("all are missing", Checks.STATE, () -> Nets.nodes(3), net -> net.calibrate(0, 1, 2));
        c.refused("one has met nobody", Checks.STATE, Nets::triangle, net -> net.calibrate(0, 1, 3));
        c.refused("undone", Checks.STATE, () -> {
            RangingNet net = Nets.triangle();
            net.undo();
            return net;
        }, net -> net.calibrate(0, 1, 2));
    }

    // ---- promise 22

    /** All six nodes on a curve without three in one line, each of which has met each. */
    private static RangingNet curve() {
        RangingNet net = new RangingNet();
        for (int i = 0; i < 6; i++) {
            net.addNode(100 * i, 30 * i * i, 0, 0, 0);
        }
        for (int i = 0; i < 36; i++) {
            if (i / 6 < i % 6) {
                net.exchange(i / 6, i % 6, 0, 0);
            }
        }
        return net;
    }

    private static void fixOfEachNode(Checks c) {
        int[] anchors = {123, 234, 345, 450, 501, 12};
        for (int node = 0; node < 6; node++) {
            int n = node;
            c.taken("node " + n, FixPromises::curve, net -> net.fix(n, anchors[n], 0, 0));
        }
        c.refused("node -1", Checks.NO_SUCH, FixPromises::curve, net -> net.fix(-1, 123, 0, 0));
        c.refused("node 6", Checks.NO_SUCH, FixPromises::curve, net -> net.fix(6, 123, 0, 0));
    }

    /** Of all numbers those are taken that stand for three different nodes besides the one that is wanted. */
    private static void fixFromAnchors(Checks c) {
        for (int anchors = -1; anchors <= 1000; anchors++) {
            int written = anchors;
            int i = anchors / 100;
            int j = anchors / 10 % 10;
            int k = anchors % 10;
            String what = "anchors " + anchors;
            Function<RangingNet, Object> call = net -> net.fix(4, written, 2, 1);
            if (anchors < 0 || anchors > 999 || i > 5 || j > 5 || k > 5) {
                c.refused(what, Checks.NO_SUCH, FixPromises::curve, call);
            } else if (i == 4 || j == 4 || k == 4 || i == j || i == k || j == k) {
                c.refused(what, Checks.ARGUMENT, FixPromises::curve, call);
            } else {
                c.taken(what, FixPromises::curve, call);
            }
        }
    }

    /** Anchors at (0, 0), (1, y) and (1, y - 1), nearly in one line, and all of them 1000 above the node. */
    private static RangingNet steep(int y, int assumed0, int assumed1, int assumed2) {
        RangingNet net = Nets.anchored(0, -1000);
        net.move(1, 1, y);
        net.move(2, 1, y - 1);
        net.exchange(3, 1, 1, 1);
        net.exchange(3, 2, 1, 1);
        net.assume(0, assumed0);
        net.assume(1, assumed1);
        net.assume(2, assumed2);
        return net;
    }

    /** The assumed delays were found by search, so that X is just the last int. */
    private static void leastAndGreatestCoordinate(Checks c) {
        c.look("the greatest int", Checks.HIGH, () -> steep(999, 504, -782, 147), net -> net.fix(3, 12, 0, 0));
        c.look("the least int", Checks.LOW, () -> steep(999, -744, 655, -473), net -> net.fix(3, 12, 0, 0));
        c.look("0", 0, () -> Nets.anchored(0, 0), net -> net.fix(3, 12, 0, 0));
    }

    private static void fixWithoutNode(Checks c) {
        Supplier<RangingNet> recipe = () -> Nets.anchored(30, 40);
        for (int node : new int[] {Checks.LOW, -1, 4, Checks.HIGH}) {
            c.refused("node " + node, Checks.NO_SUCH, recipe, net -> net.fix(node, 12, 0, 0));
        }
        for (int anchors : new int[] {Checks.LOW, -1000, -123, -12, -1, 1000, 1012, 1120, 10012, Checks.HIGH}) {
            c.refused("anchors " + anchors, Checks.NO_SUCH, recipe, net -> net.fix(3, anchors, 0, 0));
        }
        for (int anchors : new int[] {412, 142, 124, 42, 24, 4, 999, 900, 90, 9}) {
            c.refused("anchors " + anchors, Checks.NO_SUCH, recipe, net -> net.fix(3, anchors, 0, 0));
        }
        c.refused("no node at all", Checks.NO_SUCH, RangingNet::new, net -> net.fix(0, 0, 0, 0));
    }

    private static void fixWithWrongArguments(Checks c) {
        Supplier<RangingNet> recipe = () -> Nets.anchored(30, 40);
        for (int anchors : new int[] {312, 132, 123, 112, 121, 211, 333, 0, 11, 111, 303, 330, 33}) {
            c.refused("anchors " + anchors, Checks.ARGUMENT, recipe, net -> net.fix(3, anchors, 0, 0));
        }
        RangePromises.noSuchMethod(c, recipe, (net, method) -> net.fix(3, 12, method, 0));
        RangePromises.noSuchMethod(c, recipe, (net, method) -> net.fix(0, 123, method, 0));
        RangePromises.noSuchMethod(c, recipe, (net, axis) -> net.fix(3, 12, 0, axis));
        RangePromises.noSuchMethod(c, recipe, (net, axis) -> net.fix(0, 123, 0, axis));
        c.refused("axis 2", Checks.ARGUMENT, recipe, net -> net.fix(3, 12, 0, 2));
    }

    private static void fixWithoutRange(Checks c) {
        for (int met = 0; met < 8; met++) {
            int which = met;
            Supplier<RangingNet> recipe = () -> {
                RangingNet net = Nets.nodes(3);
                net.move(2, 0, 10);
                net.addNode(5, 5, 0, 0, 0);
                for (int anchor = 0; anchor < 3; anchor++) {
                    if ((which >> anchor) % 2 == 1) {
                        net.exchange(anchor, 3, 0, 0);
                    }
                }
                net.exchange(0, 1, 0, 0);
                net.exchange(0, 2, 0, 0);
                net.exchange(1, 2, 0, 0);
                return net;
            };
            for (int[] o : ORDERS) {
                int anchors = 100 * o[0] + 10 * o[1] + o[2];
                String what = "met " + which + ", anchors " + anchors;
                if (which == 7) {
                    c.taken(what, recipe, net -> net.fix(3, anchors, 0, 0));
                } else {
                    c.refused(what, Checks.STATE, recipe, net -> net.fix(3, anchors, 0, 0));
                }
            }
        }
        c.refused("missing, and in one line", Checks.STATE, () -> Nets.nodes(4), net -> net.fix(3, 12, 0, 0));
    }

    private static void fixWithoutAnswer(Checks c) {
        Function<RangingNet, Object> x = net -> net.fix(3, 12, 0, 0);
        Function<RangingNet, Object> y = net -> net.fix(3, 12, 0, 1);
        Supplier<RangingNet> inLine = () -> {
            RangingNet net = Nets.anchored(30, 40);
            net.move(2, -7, 0);
            return net;
        };
        c.refused("in one line", Checks.ARITHMETIC, inLine, x);
        c.refused("in one line", Checks.ARITHMETIC, inLine, y);
        c.refused("just below the ints", Checks.ARITHMETIC, () -> steep(999, -123, 684, -457), x);
        c.refused("just above the ints", Checks.ARITHMETIC, () -> steep(1000, 750, -302, 1000), x);
        Supplier<RangingNet> farBelow = () -> steep(1000, 0, -1000, 1000);
        Supplier<RangingNet> farAbove = () -> steep(1000, 0, 1000, -1000);
        c.refused("far outside", Checks.ARITHMETIC, farBelow, x);
        c.refused("far outside", Checks.ARITHMETIC, farAbove, x);
        c.look("the other coordinate fits", -4000000, farBelow, y);
        c.look("the other coordinate fits", 3998000, farAbove, y);
    }
}
