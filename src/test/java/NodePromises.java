import java.util.function.BiFunction;
import java.util.function.Supplier;

/** The sentences of the promises 1 to 7: a new object, nodes. */
final class NodePromises {
    private static final String NO_NODE = "Throws `IndexOutOfBoundsException` if there is no such node";

    private NodePromises() {
    }

    static void tell(Sentences s) {
        s.promise(1, "Creates a simulator without nodes, exchanges and plans, at the true time 0.",
                NodePromises::newObject);

        s.promise(2, "Adds a node.", NodePromises::addNodeAdds);
        s.promise(2, "Undoable.", c -> {
            c.undoable("the first node", RangingNet::new, net -> net.addNode(0, 0, 0, 0, 0));
            c.undoable("the sixth node", () -> Nets.nodes(5), net -> net.addNode(1, -1, 1, 1, 1));
        });
        s.promise(2, "- `x`: -1000 to 1000", c -> addNodeBounds(c, 0, -1000, 1000));
        s.promise(2, "- `y`: -1000 to 1000", c -> addNodeBounds(c, 1, -1000, 1000));
        s.promise(2, "- `drift`: -100 to 100", c -> addNodeBounds(c, 2, -100, 100));
        s.promise(2, "- `offset`: 0 to 1048575", c -> addNodeBounds(c, 3, 0, 1048575));
        s.promise(2, "- `delay`: antenna delay, 0 to 200", c -> addNodeBounds(c, 4, 0, 200));
        s.promise(2, "Returns the number of the node.", NodePromises::addNodeReturns);
        s.promise(2, "Throws `IllegalArgumentException` if an argument is out of range",
                NodePromises::addNodeWithWrongArguments);
        s.promise(2, "Throws `IllegalStateException` if there are 6 nodes", c -> {
            c.taken("with 5 nodes", () -> Nets.nodes(5), net -> net.addNode(0, 0, 0, 0, 0));
            c.refused("with 6 nodes", Checks.STATE, () -> Nets.nodes(6), net -> net.addNode(0, 0, 0, 0, 0));
            c.refused("with 6 nodes", Checks.STATE, Nets::full, net -> net.addNode(1000, 1000, 100, 1048575, 200));
        });

        s.promise(3, "Moves a node.", NodePromises::moveMoves);
        s.promise(3, "Recorded exchanges stay.", NodePromises::recordedExchangesStay);
        s.promise(3, "Undoable.", c -> {
            c.undoable("a move", () -> Nets.nodes(3), net -> net.move(2, -1000, 1000));
            c.undoable("a move of a node that has met others", Nets::full, net -> net.move(5, 1, 1));
        });
        s.promise(3, "- `node`: number of a node", c -> nodeNumbers(c, (net, node) -> net.move(node, 5, 5)));
        s.promise(3, "- `x`: -1000 to 1000", c -> {
            bounds(c, -1000, 1000, (net, x) -> net.move(0, x, 0));
            dueMoved(c, -1000, 7);
            dueMoved(c, 1000, 7);
        });
        s.promise(3, "- `y`: -1000 to 1000", c -> {
            bounds(c, -1000, 1000, (net, y) -> net.move(0, 0, y));
            dueMoved(c, 7, -1000);
            dueMoved(c, 7, 1000);
        });
        s.promise(3, "Returns the distance of the old and the new position, rounded down.", NodePromises::moveReturns);
        s.promise(3, NO_NODE, c -> noSuchNode(c, (net, node) -> net.move(node, 0, 0)));
        s.promise(3, "Throws `IllegalArgumentException` if x or y is out of range", c -> {
            for (int far : new int[] {Checks.LOW, -1001, 1001, Checks.HIGH}) {
                c.refused("x " + far, Checks.ARGUMENT, () -> Nets.nodes(2), net -> net.move(1, far, 0));
                c.refused("y " + far, Checks.ARGUMENT, () -> Nets.nodes(2), net -> net.move(1, 0, far));
                c.refused("both " + far, Checks.ARGUMENT, Nets::full, net -> net.move(1, far, far));
            }
        });

        s.promise(4, "Sets the assumed delay of a node.", NodePromises::assumeSets);
        s.promise(4, "Undoable.", c -> {
            c.undoable("a delay", () -> Nets.nodes(1), net -> net.assume(0, -1000));
            c.undoable("the same delay", () -> Nets.nodes(3), net -> net.assume(2, 0));
        });
        s.promise(4, "- `node`: number of a node", c -> nodeNumbers(c, (net, node) -> net.assume(node, 5)));
        s.promise(4, "- `delay`: -1000 to 1000", c -> {
            bounds(c, -1000, 1000, (net, delay) -> net.assume(0, delay));
            for (int delay : new int[] {-1000, -1, 0, 1, 1000}) {
                RangingNet net = Nets.nodes(1);
                net.assume(0, delay);
                c.due("assumed", delay, () -> net.assumed(0));
            }
        });
        s.promise(4, "Returns the previous assumed delay.", NodePromises::assumeReturns);
        s.promise(4, NO_NODE, c -> noSuchNode(c, (net, node) -> net.assume(node, 0)));
        s.promise(4, "Throws `IllegalArgumentException` if delay is out of range", c -> {
            for (int delay : new int[] {Checks.LOW, -1001, 1001, Checks.HIGH}) {
                c.refused("delay " + delay, Checks.ARGUMENT, Nets::full, net -> net.assume(5, delay));
            }
        });

        s.promise(5, "Returns the assumed delay of a node.", NodePromises::assumedOfEach);
        s.promise(5, "- `node`: number of a node", c -> nodeNumbers(c, RangingNet::assumed));
        s.promise(5, "Returns the assumed delay.", c -> {
            c.look("at first", 0, () -> Nets.nodes(1), net -> net.assumed(0));
            c.look("when calibrated", -1, NodePromises::calibrated, net -> net.assumed(1));
        });
        s.promise(5, NO_NODE, c -> noSuchNode(c, RangingNet::assumed));

        s.promise(6, "Returns the distance of two nodes.", NodePromises::distances);
        s.promise(6, "- `a`: number of a node", c -> nodeNumbers(c, (net, a) -> net.distance(a, 0)));
        s.promise(6, "- `b`: number of a node", c -> nodeNumbers(c, (net, b) -> net.distance(0, b)));
        s.promise(6, "Returns the distance, rounded down.", NodePromises::distanceRoundedDown);
        s.promise(6, NO_NODE, c -> {
            noSuchNode(c, (net, a) -> net.distance(a, 0));
            noSuchNode(c, (net, b) -> net.distance(0, b));
            noSuchNode(c, (net, both) -> net.distance(both, both));
        });

        s.promise(7, "Returns the counter of a node at a true time.", NodePromises::counterAtTimes);
        s.promise(7, "- `node`: number of a node", c -> nodeNumbers(c, (net, node) -> net.counter(node, 5)));
        s.promise(7, "- `time`: 0 to 1000000000", c -> {
            c.look("the least time", 0, () -> Nets.nodes(1), net -> net.counter(0, 0));
            c.look("the greatest time", 707072, () -> Nets.nodes(1), net -> net.counter(0, 1000000000));
            bounds(c, 0, 1000000000, (net, time) -> net.counter(0, time));
        });
        s.promise(7, "Returns the counter, 0 to 1048575.", NodePromises::leastAndGreatestCounter);
        s.promise(7, NO_NODE, c -> noSuchNode(c, (net, node) -> net.counter(node, 0)));
        s.promise(7, "Throws `IllegalArgumentException` if time is out of range", c -> {
            for (int time : new int[] {Checks.LOW, -1, 1000000001, Checks.HIGH}) {
                c.refused("time " + time, Checks.ARGUMENT, Nets::full, net -> net.counter(5, time));
            }
        });
    }

    // ---- what nodes have in common

    /** All numbers below the number of nodes are taken; the ones next to them are not. */
    static void nodeNumbers(Checks c, BiFunction<RangingNet, Integer, Object> call) {
        nodeNumbers(c, 1, call);
    }

    /** The same of a call that needs so many nodes, for which with fewer no number is taken. */
    static void nodeNumbers(Checks c, int needed, BiFunction<RangingNet, Integer, Object> call) {
        for (int count = 0; count <= 6; count++) {
            int nodes = count;
            for (int node = -1; node <= count; node++) {
                int number = node;
                String what = "node " + node + " of " + count;
                if (node < 0 || node == count || count < needed) {
                    c.refused(what, Checks.NO_SUCH, () -> Nets.nodes(nodes), net -> call.apply(net, number));
                } else {
                    c.taken(what, () -> Nets.nodes(nodes), net -> call.apply(net, number));
                }
            }
        }
    }

    static void noSuchNode(Checks c, BiFunction<RangingNet, Integer, Object> call) {
        for (int node : new int[] {Checks.LOW, -1, 6, 7, Checks.HIGH}) {
            c.refused("node " + node, Checks.NO_SUCH, Nets::full, net -> call.apply(net, node));
            c.refused("node " + node, Checks.NO_SUCH, RangingNet::new, net -> call.apply(net, node));
        }
        Supplier<RangingNet> undone = () -> {
            RangingNet net = Nets.nodes(3);
            net.undo();
            return net;
        };
        c.refused("a node that was undone", Checks.NO_SUCH, undone, net -> call.apply(net, 2));
    }

    /** For calls on node 0: the least and the greatest value are taken, the first ones beyond are not. */
    private static void bounds(Checks c, int least, int most, BiFunction<RangingNet, Integer, Object> call) {
        for (int value : new int[] {least, least + 1, most - 1, most}) {
            c.taken("value " + value, () -> Nets.nodes(1), net -> call.apply(net, value));
        }
        for (int value : new int[] {Checks.LOW, least - 1, most + 1, Checks.HIGH}) {
            c.refused("value " + value, Checks.ARGUMENT, () -> Nets.nodes(1), net -> call.apply(net, value));
        }
    }

    // ---- promise 1

    private static void newObject(Checks c) {
        c.look("now()", 0L, RangingNet::new, RangingNet::now);
        c.look("exchanges()", 0, RangingNet::new, RangingNet::exchanges);
        c.look("nextPlanned()", RangingNet.NONE, RangingNet::new, RangingNet::nextPlanned);
        c.look("digest()", 80075735347L, RangingNet::new, RangingNet::digest);
        c.look("worstError", RangingNet.NONE, RangingNet::new, net -> net.worstError(0));
        c.look("meanError", 0.0, RangingNet::new, net -> net.meanError(0));
        c.refused("node 0", Checks.NO_SUCH, RangingNet::new, net -> net.assumed(0));
        c.refused("exchange 0", Checks.NO_SUCH, RangingNet::new, net -> net.stamp(0, 1));
        c.refused("undo", Checks.STATE, RangingNet::new, RangingNet::undo);
        c.due("nothing to carry out", 0, () -> new RangingNet().run(900000000));
        RangingNet untouched = new RangingNet();
        Nets.full().run(1000000);
        c.due("another object plays no part", 80075735347L, untouched::digest);
    }

    // ---- promise 2

    private static void addNodeAdds(Checks c) {
        RangingNet net = new RangingNet();
        net.addNode(1, -2, 3, 4, 5);
        net.addNode(-6, 7, -8, 9, 10);
        c.due("both", Nets.hash(0, 2, 1, -2, 3, 4, 5, 0, 4, -6, 7, -8, 9, 10, 0, 9, 0, 0, 2), net::digest);
        c.due("their distance", 11, () -> net.distance(0, 1));
    }

    private static void addNodeBounds(Checks c, int at, int least, int most) {
        for (int value : new int[] {least, least + 1, 0, most - 1, most}) {
            int[] n = {1, 2, 3, 4, 5};
            n[at] = value;
            RangingNet net = new RangingNet();
            c.due("value " + value, 0, () -> net.addNode(n[0], n[1], n[2], n[3], n[4]));
            c.due("kept", Nets.hash(0, 1, n[0], n[1], n[2], n[3], n[4], 0, n[3], 0, 0, 1), net::digest);
        }
        for (int value : new int[] {Checks.LOW, least - 1, most + 1, Checks.HIGH}) {
            int[] n = {1, 2, 3, 4, 5};
            n[at] = value;
            c.refused("value " + value, Checks.ARGUMENT, RangingNet::new,
                    net -> net.addNode(n[0], n[1], n[2], n[3], n[4]));
            c.refused("value " + value, Checks.ARGUMENT, () -> Nets.nodes(5),
                    net -> net.addNode(n[0], n[1], n[2], n[3], n[4]));
        }
    }

    private static void addNodeReturns(Checks c) {
        RangingNet net = new RangingNet();
        for (int node = 0; node < 6; node++) {
            c.due("number", node, () -> net.addNode(0, 0, 0, 0, 0));
        }
        net.undo();
        net.undo();
        c.due("number after two undos", 4, () -> net.addNode(0, 0, 0, 0, 0));
    }

    private static void addNodeWithWrongArguments(Checks c) {
        int[][] wrong = {{-1001, 0, 0, 0, 0}, {0, 1001, 0, 0, 0}, {0, 0, -101, 0, 0}, {0, 0, 0, 1048576, 0},
            {0, 0, 0, 0, -1}, {0, 0, 0, 0, 201}, {1001, -1001, 101, -1, 201}};
        for (int[] w : wrong) {
            for (int count : new int[] {0, 5, 6}) {
                c.refused("behind " + count + " nodes", Checks.ARGUMENT, () -> Nets.nodes(count),
                        net -> net.addNode(w[0], w[1], w[2], w[3], w[4]));
            }
        }
    }

    // ---- promise 3

    private static void moveMoves(Checks c) {
        RangingNet net = Nets.nodes(2);
        net.move(1, -30, 40);
        c.due("only that one", Nets.hash(0, 2, 0, 0, 0, 0, 0, 0, 0, -30, 40, 0, 0, 0, 0, 0, 0, 0, 3), net::digest);
        c.due("distance", 50, () -> net.distance(0, 1));
        c.due("where it sends from", 50, () -> {
            net.exchange(1, 0, 0, 0);
            return net.stamp(0, 2);
        });
    }

    private static void dueMoved(Checks c, int x, int y) {
        RangingNet net = Nets.nodes(1);
        net.move(0, x, y);
        c.due("moved to " + x + ", " + y, Nets.hash(0, 1, x, y, 0, 0, 0, 0, 0, 0, 0, 2), net::digest);
    }

    private static void recordedExchangesStay(Checks c) {
        RangingNet net = Nets.exchanges(1);
        net.move(0, 1000, 1000);
        int[] stamps = {0, 10, 10, 20, 20, 30};
        for (int which = 1; which <= 6; which++) {
            int w = which;
            c.due("p" + w, stamps[w - 1], () -> net.stamp(0, w));
        }
        c.due("range", 10, () -> net.range(0, 2));
        c.due("latest range", 10, () -> net.latestRange(0, 1, 2));
        c.due("exchanges", 1, net::exchanges);
        c.due("now", 30L, net::now);
    }

    private static void moveReturns(Checks c) {
        int[][] ways = {{0, 0, 0}, {0, 1, 1}, {-1, 0, 1}, {1, 1, 1}, {-1, 2, 2}, {2, -2, 2}, {300, 400, 500},
            {1000, 1000, 1414}, {-1000, 1000, 1414}, {1000, 0, 1000}, {0, -1000, 1000}};
        for (int[] way : ways) {
            c.due("move by " + way[0] + " and " + way[1], way[2], () -> Nets.nodes(1).move(0, way[0], way[1]));
        }
        RangingNet net = Nets.nodes(1);
        net.move(0, -1000, 1000);
        c.due("the longest way", 2828, () -> net.move(0, 1000, -1000));
        c.due("from the position where it was moved", 2000, () -> net.move(0, 1000, 1000));
    }

    // ---- promises 4 and 5

    private static void assumeSets(Checks c) {
        RangingNet net = Nets.nodes(2);
        net.assume(1, -7);
        c.due("only that one", Nets.hash(0, 2, 0, 0, 0, 0, 0, 0, 0, 10, 0, 0, 0, 0, -7, 0, 0, 0, 3), net::digest);
    }

    private static void assumeReturns(Checks c) {
        RangingNet net = Nets.nodes(2);
        int previous = 0;
        for (int delay : new int[] {1000, -1000, 0, 0, 5}) {
            int due = previous;
            c.due("previous", due, () -> net.assume(1, delay));
            previous = delay;
        }
        c.due("previous of the other", 0, () -> net.assume(0, 1));
        net.undo();
        net.undo();
        c.due("previous after undos", 0, () -> net.assume(1, 9));
        c.due("previous when calibrated", -1, () -> calibrated().assume(1, 0));
    }

    /** The assumed delays become 0, -1 and 0. */
    private static RangingNet calibrated() {
        RangingNet net = Nets.triangle();
        net.move(0, 0, 1);
        net.calibrate(0, 1, 2);
        return net;
    }

    private static void assumedOfEach(Checks c) {
        RangingNet net = Nets.nodes(6);
        for (int node = 0; node < 6; node++) {
            net.assume(node, 100 * node - 300);
        }
        for (int node = 0; node < 6; node++) {
            int n = node;
            c.due("of node " + n, 100 * n - 300, () -> net.assumed(n));
        }
    }

    // ---- promise 6

    private static void distances(Checks c) {
        for (int i = 0; i < 36; i++) {
            int a = i / 6;
            int b = i % 6;
            c.look(a + " to " + b, 10 * Math.abs(a - b), () -> Nets.nodes(6), net -> net.distance(a, b));
        }
    }

    private static void distanceRoundedDown(Checks c) {
        int[][] due = {{-1000, -1000, 1000, 1000, 2828}, {-1000, 1000, 1000, -1000, 2828}, {0, 0, 0, 0, 0},
            {1, 1, 2, 2, 1}, {2, 2, 4, 4, 2}, {-1, -1, 0, 1, 2}, {-3, 0, 1, 3, 5}, {0, 0, 7, 1, 7}, {0, 0, 7, 4, 8}};
        for (int[] each : due) {
            RangingNet net = new RangingNet();
            net.addNode(each[0], each[1], 0, 0, 200);
            net.addNode(each[2], each[3], 0, 0, 200);
            c.due("distance", each[4], () -> net.distance(0, 1));
            c.due("distance back", each[4], () -> net.distance(1, 0));
        }
    }

    // ---- promise 7

    private static void counterAtTimes(Checks c) {
        RangingNet net = new RangingNet();
        net.addNode(5, 5, 0, 3, 200);
        net.addNode(5, 5, 100, 7, 200);
        net.run(123456);
        c.due("in the past", 3, () -> net.counter(0, 0));
        c.due("now", 123459, () -> net.counter(0, 123456));
        c.due("in the future", 500003, () -> net.counter(0, 500000));
        c.due("of another node", 500057, () -> net.counter(1, 500000));
    }

    private static void leastAndGreatestCounter(Checks c) {
        RangingNet net = new RangingNet();
        net.addNode(0, 0, 0, 0, 0);
        net.addNode(0, 0, 0, 1048575, 0);
        c.due("greatest", 1048575, () -> net.counter(0, 1048575));
        c.due("least", 0, () -> net.counter(0, 1048576));
        c.due("greatest", 1048575, () -> net.counter(1, 0));
        c.due("least", 0, () -> net.counter(1, 1));
        c.due("greatest", 1048575, () -> net.counter(1, 1048576));
        c.due("the last wrap", 1048575, () -> net.counter(0, 999292927));
        c.due("the last wrap", 0, () -> net.counter(0, 999292928));
    }
}
