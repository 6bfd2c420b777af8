import java.util.function.BiFunction;
import java.util.function.Function;
import java.util.function.Supplier;

/** The sentences of the promises 16 to 20: ranges, errors, relative drift. */
final class RangePromises {
    private static final String NO_NODE = "Throws `IndexOutOfBoundsException` if there is no such node";
    private static final String NO_EXCHANGE = "Throws `IndexOutOfBoundsException` if there is no such exchange";
    private static final String NO_METHOD = "Throws `IllegalArgumentException` if method is out of range";
    private static final String METHOD = "- `method`: 0 to 2";

    private RangePromises() {
    }

    static void tell(Sentences s) {
        s.promise(16, "Returns the range of an exchange.", RangePromises::rangeOfEach);
        s.promise(16, "- `exchange`: number of an exchange",
                c -> ExchangePromises.exchangeNumbers(c, (net, e) -> net.range(e, 0)));
        s.promise(16, METHOD, c -> {
            methods(c, RangePromises::unlike, (net, method) -> net.range(0, method));
            dueByMethod(c, 540, 505, 500, (net, method) -> net.range(0, method));
        });
        s.promise(16, "Returns the range.", RangePromises::rangeReturns);
        s.promise(16, NO_EXCHANGE, c -> ExchangePromises.noSuchExchange(c, (net, e) -> net.range(e, 0)));
        s.promise(16, NO_METHOD, c -> noSuchMethod(c, Nets::full, (net, method) -> net.range(39, method)));

        s.promise(17, "Returns the latest range of two nodes.", RangePromises::latestOfTwo);
        s.promise(17, "- `a`: number of a node", c -> allMet(c, (net, a) -> net.latestRange(a, a == 0 ? 1 : 0, 0)));
        s.promise(17, "- `b`: number of a node", c -> allMet(c, (net, b) -> net.latestRange(b == 0 ? 1 : 0, b, 0)));
        s.promise(17, METHOD, c -> {
            methods(c, RangePromises::unlike, (net, method) -> net.latestRange(1, 0, method));
            dueByMethod(c, 540, 505, 500, (net, method) -> net.latestRange(1, 0, method));
        });
        s.promise(17, "Returns the latest range.", RangePromises::latestReturns);
        s.promise(17, NO_NODE, c -> {
            NodePromises.noSuchNode(c, (net, a) -> net.latestRange(a, 0, 0));
            NodePromises.noSuchNode(c, (net, b) -> net.latestRange(0, b, 0));
            NodePromises.noSuchNode(c, (net, both) -> net.latestRange(both, both, 3));
        });
        s.promise(17, NO_METHOD, c -> {
            noSuchMethod(c, Nets::full, (net, method) -> net.latestRange(0, 5, method));
            noSuchMethod(c, () -> Nets.nodes(2), (net, method) -> net.latestRange(0, 1, method));
        });
        s.promise(17, "Throws `IllegalStateException` if no exchange between these nodes is recorded",
                RangePromises::neverMet);

        tellErrors(s);
        tellRelativeDrift(s);
    }

    private static void tellErrors(Sentences s) {
        s.promise(18, "Returns the greatest absolute error of the recorded exchanges by a method.",
                RangePromises::worstOfAll);
        s.promise(18, METHOD, c -> {
            methods(c, RangePromises::unlike, RangingNet::worstError);
            methods(c, RangingNet::new, RangingNet::worstError);
            dueByMethod(c, 40, 5, 0, RangingNet::worstError);
        });
        s.promise(18, "Returns the greatest absolute error; NONE if no exchange is recorded.", c -> {
            for (int method = 0; method <= 2; method++) {
                int m = method;
                c.look("of none", RangingNet.NONE, RangingNet::new, net -> net.worstError(m));
                c.look("of none, but one waits", RangingNet.NONE, () -> Nets.plans(1), net -> net.worstError(m));
                c.look("of one without error", 0, () -> Nets.exchanges(1), net -> net.worstError(m));
                c.look("of 40 without error", 0, () -> Nets.exchanges(40), net -> net.worstError(m));
                c.look("of none, one was undone", RangingNet.NONE, RangePromises::undone, net -> net.worstError(m));
            }
        });
        s.promise(18, NO_METHOD, c -> {
            noSuchMethod(c, Nets::full, RangingNet::worstError);
            noSuchMethod(c, RangingNet::new, RangingNet::worstError);
        });

        s.promise(19, "Returns the mean error of the recorded exchanges by a method.", RangePromises::meanOfAll);
        s.promise(19, METHOD, c -> {
            methods(c, RangePromises::unlike, RangingNet::meanError);
            methods(c, RangingNet::new, RangingNet::meanError);
            dueByMethod(c, 40.0, 5.0, 0.0, RangingNet::meanError);
        });
        s.promise(19, "Returns the sum of the errors, converted to double, divided by the number of exchanges,"
                + " converted to double; 0.0 if no exchange is recorded.", RangePromises::meanReturns);
        s.promise(19, NO_METHOD, c -> {
            noSuchMethod(c, Nets::full, RangingNet::meanError);
            noSuchMethod(c, RangingNet::new, RangingNet::meanError);
        });
    }

    private static void tellRelativeDrift(Sentences s) {
        s.promise(20, "Returns how much faster the clock of the initiator of an exchange was than that of the"
                + " responder, in millionths, as far as the counters tell it: let u = round a + reply a and v = round b"
                + " + reply b, both converted to double; the value is (u / v - 1.0) * 1000000.0.",
                RangePromises::relativeDrifts);
        s.promise(20, "- `exchange`: number of an exchange",
                c -> ExchangePromises.exchangeNumbers(c, RangingNet::relativeDrift));
        s.promise(20, "Returns the value.", RangePromises::driftReturns);
        s.promise(20, NO_EXCHANGE, c -> ExchangePromises.noSuchExchange(c, RangingNet::relativeDrift));
        s.promise(20, "Throws `ArithmeticException` if round b + reply b is 0", RangePromises::noTimeAtTheResponder);
    }

    // ---- what these promises have in common

    /** One exchange with the ranges 540, 505 and 500 over a distance of 500. */
    private static RangingNet unlike() {
        RangingNet net = new RangingNet();
        net.addNode(0, 0, 100, 0, 0);
        net.addNode(300, 400, -100, 0, 0);
        net.exchange(0, 1, 400000, 300000);
        return net;
    }

    private static RangingNet undone() {
        RangingNet net = Nets.exchanges(1);
        net.undo();
        return net;
    }

    private static void dueByMethod(Checks c, Object due0, Object due1, Object due2,
            BiFunction<RangingNet, Integer, Object> call) {
        c.look("method 0", due0, RangePromises::unlike, net -> call.apply(net, 0));
        c.look("method 1", due1, RangePromises::unlike, net -> call.apply(net, 1));
        c.look("method 2", due2, RangePromises::unlike, net -> call.apply(net, 2));
    }

    static void methods(Checks c, Supplier<RangingNet> recipe, BiFunction<RangingNet, Integer, Object> call) {
        for (int method = 0; method <= 2; method++) {
            int m = method;
            c.taken("method " + m, recipe, net -> call.apply(net, m));
        }
        c.refused("method -1", Checks.ARGUMENT, recipe, net -> call.apply(net, -1));
        c.refused("method 3", Checks.ARGUMENT, recipe, net -> call.apply(net, 3));
    }

    static void noSuchMethod(Checks c, Supplier<RangingNet> recipe, BiFunction<RangingNet, Integer, Object> call) {
        for (int method : new int[] {Checks.LOW, -1, 3, Checks.HIGH}) {
            c.refused("method " + method, Checks.ARGUMENT, recipe, net -> call.apply(net, method));
        }
    }

    // ---- promise 16

    private static void rangeOfEach(Checks c) {
        Supplier<RangingNet> recipe = () -> {
            RangingNet net = Nets.nodes(2);
            for (int i = 0; i < 40; i++) {
                net.move(1, i, 0);
                net.exchange(i % 2, 1 - i % 2, 5, 7);
            }
            return net;
        };
        for (int exchange = 0; exchange < 40; exchange++) {
            int e = exchange;
            c.look("over " + e, e, recipe, net -> net.range(e, e % 3));
        }
    }

    private static void rangeReturns(Checks c) {
        RangingNet net = new RangingNet();
        net.addNode(0, 0, 0, 0, 15);
        net.addNode(30, 40, 0, 0, 5);
        net.exchange(0, 1, 10, 20);
        int[][] due = {{0, 0, 70}, {15, 5, 50}, {15, 55, 0}, {15, 56, -1}, {1000, 1000, -1930}, {-1000, -1000, 2070}};
        for (int[] each : due) {
            net.assume(0, each[0]);
            net.assume(1, each[1]);
            for (int method = 0; method <= 2; method++) {
                int m = method;
                c.due("range", each[2], () -> net.range(0, m));
            }
        }
    }

    // ---- promise 17

    /** Six nodes, of which each has met each. */
    private static RangingNet met() {
        RangingNet net = Nets.nodes(6);
        for (int i = 0; i < 36; i++) {
            if (i / 6 < i % 6) {
                net.exchange(i / 6, i % 6, 0, 0);
            }
        }
        return net;
    }

    private static void allMet(Checks c, BiFunction<RangingNet, Integer, Object> call) {
        for (int node = 0; node < 6; node++) {
            int n = node;
            c.look("node " + n, n == 0 ? 10 : 10 * n, RangePromises::met, net -> call.apply(net, n));
        }
        c.refused("node -1", Checks.NO_SUCH, RangePromises::met, net -> call.apply(net, -1));
        c.refused("node 6", Checks.NO_SUCH, RangePromises::met, net -> call.apply(net, 6));
    }

    private static void latestOfTwo(Checks c) {
        for (int i = 0; i < 36; i++) {
            int a = i / 6;
            int b = i % 6;
            if (a != b) {
                c.look(a + " and " + b, 10 * Math.abs(a - b), RangePromises::met, net -> net.latestRange(a, b, 1));
            }
        }
    }

    private static void latestReturns(Checks c) {
        RangingNet net = Nets.nodes(3);
        net.exchange(0, 1, 7, 7);
        c.due("the only one", 10, () -> net.latestRange(0, 1, 0));
        net.move(1, 50, 0);
        c.due("as it was recorded", 10, () -> net.latestRange(0, 1, 1));
        net.exchange(1, 0, 7, 7);
        net.exchange(0, 2, 7, 7);
        c.due("the later one", 50, () -> net.latestRange(0, 1, 1));
        net.assume(0, 3);
        c.due("minus what is assumed now", 47, () -> net.latestRange(1, 0, 2));
        net.undo();
        net.undo();
        net.undo();
        c.due("the earlier one again", 10, () -> net.latestRange(1, 0, 2));
        RangingNet full = Nets.exchanges(39);
        full.move(0, 0, 24);
        full.plan(2000, 1, 0, 3, 3);
        full.run(2000);
        c.due("the fortieth, which was planned", 26, () -> full.latestRange(0, 1, 0));
    }

    private static void neverMet(Checks c) {
        Function<RangingNet, Object> call = net -> net.latestRange(0, 1, 0);
        c.refused("of none", Checks.STATE, () -> Nets.nodes(2), call);
        c.refused("only planned", Checks.STATE, () -> Nets.plans(1), call);
        c.refused("undone", Checks.STATE, RangePromises::undone, call);
        c.refused("both met others", Checks.STATE, Nets::full, call);
        c.refused("a node and itself", Checks.STATE, Nets::full, net -> net.latestRange(5, 5, 0));
        c.taken("one", () -> Nets.exchanges(1), call);
        c.taken("one, the other way round", () -> Nets.exchanges(1), net -> net.latestRange(1, 0, 0));
    }

    // ---- promises 18 and 19

    private static void worstOfAll(Checks c) {
        int[][] due = {{0, 0, 0}, {1, 0, 1}, {0, -1, 1}, {5, -6, 6}, {6, -5, 6}, {-7, -6, 7}, {3, 4, 4}};
        for (int[] each : due) {
            for (int method = 0; method <= 2; method++) {
                int m = method;
                c.look("errors " + each[0] + " and " + each[1], each[2], () -> withErrors(each[0], each[1]),
                        net -> net.worstError(m));
            }
        }
        c.look("the greatest that can be assumed", 2000, () -> {
            RangingNet net = Nets.exchanges(40);
            net.assume(0, 1000);
            net.assume(1, 1000);
            return net;
        }, net -> net.worstError(0));
    }

    private static void meanOfAll(Checks c) {
        int[][] errors = {{0, 0}, {1, 0}, {0, -1}, {5, -6}, {6, -6}, {-7, -6}, {3, 4}};
        double[] due = {0.0, 0.5, -0.5, -0.5, 0.0, -6.5, 3.5};
        for (int i = 0; i < due.length; i++) {
            int[] each = errors[i];
            double mean = due[i];
            for (int method = 0; method <= 2; method++) {
                int m = method;
                c.look("errors " + each[0] + " and " + each[1], mean, () -> withErrors(each[0], each[1]),
                        net -> net.meanError(m));
            }
        }
    }

    /** Two exchanges with these errors, by the distances of now. */
    private static RangingNet withErrors(int first, int second) {
        RangingNet net = new RangingNet();
        net.addNode(0, 0, 0, 0, 0);
        net.addNode(100, 0, 0, 0, 0);
        net.addNode(0, 100, 0, 0, 0);
        net.exchange(0, 1, 3, 3);
        net.exchange(2, 0, 3, 3);
        net.move(1, 100 - first, 0);
        net.move(2, 0, 100 - second);
        return net;
    }

    private static void meanReturns(Checks c) {
        for (int method = 0; method <= 2; method++) {
            int m = method;
            c.look("of none", 0.0, RangingNet::new, net -> net.meanError(m));
            c.look("of none, but one waits", 0.0, () -> Nets.plans(1), net -> net.meanError(m));
            c.look("of none, one was undone", 0.0, RangePromises::undone, net -> net.meanError(m));
            c.look("of one", -3.0, () -> {
                RangingNet net = Nets.exchanges(1);
                net.assume(0, 3);
                return net;
            }, net -> net.meanError(m));
            c.look("no quotient of whole numbers", -2.0 / 3.0, () -> {
                RangingNet net = Nets.triangle();
                net.assume(0, 1);
                return net;
            }, net -> net.meanError(m));
            c.look("one division, no sum of quotients", (double) -40 / (double) 40, () -> {
                RangingNet net = Nets.exchanges(40);
                net.assume(1, 1);
                return net;
            }, net -> net.meanError(m));
            c.look("seven errors of 1 by 30", 7.0 / 30.0, () -> sevenOfThirty(), net -> net.meanError(m));
        }
    }

    private static RangingNet sevenOfThirty() {
        RangingNet net = Nets.nodes(3);
        for (int i = 0; i < 30; i++) {
            net.exchange(0, i < 7 ? 1 : 2, 0, 0);
        }
        net.move(1, 9, 0);
        return net;
    }

    // ---- promise 20

    private static void relativeDrifts(Checks c) {
        dueDrift(c, 0.0, 0, 0, 5000, 5000);
        dueDrift(c, (9999.0 / 10001.0 - 1.0) * 1000000.0, -100, 100, 5000, 5000);
        dueDrift(c, (10001.0 / 9999.0 - 1.0) * 1000000.0, 100, -100, 5000, 5000);
        dueDrift(c, (9999.0 / 10000.0 - 1.0) * 1000000.0, -100, 0, 10000, 0);
        dueDrift(c, (10000.0 / 9999.0 - 1.0) * 1000000.0, 0, -100, 0, 10000);
        dueDrift(c, (800080.0 / 799920.0 - 1.0) * 1000000.0, 100, -100, 400000, 400000);
        dueDrift(c, 0.0, 0, 0, 1, 0);
        dueDrift(c, 0.0, 0, 0, 0, 1);
    }

    /** On one spot u and v are the ticks of the two clocks in both reply times. */
    private static void dueDrift(Checks c, double due, int drift0, int drift1, int reply1, int reply2) {
        RangingNet net = Nets.clocks(drift0, drift1);
        net.exchange(0, 1, reply1, reply2);
        c.due("drifts " + drift0 + " and " + drift1, due, () -> net.relativeDrift(0));
    }

    private static void driftReturns(Checks c) {
        RangingNet net = Nets.clocks(0, -100);
        net.run(1);
        net.exchange(0, 1, 1, 0);
        c.due("one tick each", 0.0, () -> net.relativeDrift(0));
        net.run(20000);
        net.exchange(1, 0, 1, 0);
        c.due("only the responder ticks", -1000000.0, () -> net.relativeDrift(1));
        net.assume(0, 1000);
        net.move(0, 500, 500);
        c.due("assumed delays and positions play no part", 0.0, () -> net.relativeDrift(0));
        c.look("the document's example", 199.77026419626398, () -> {
            RangingNet example = new RangingNet();
            example.addNode(0, 0, 100, 0, 0);
            example.addNode(300, 400, -100, 0, 0);
            example.exchange(0, 1, 400000, 400000);
            return example;
        }, example -> example.relativeDrift(0));
    }

    private static void noTimeAtTheResponder(Checks c) {
        Function<RangingNet, Object> call = net -> net.relativeDrift(0);
        c.refused("no time at all", Checks.ARITHMETIC, () -> {
            RangingNet net = Nets.oneSpot();
            net.exchange(0, 1, 0, 0);
            return net;
        }, call);
        c.refused("only the initiator ticks", Checks.ARITHMETIC, () -> {
            RangingNet net = Nets.clocks(0, -100);
            net.run(10000);
            net.exchange(0, 1, 1, 0);
            return net;
        }, call);
        c.look("only reply b", 0.0, () -> {
            RangingNet net = Nets.oneSpot();
            net.exchange(0, 1, 1, 0);
            return net;
        }, call);
        c.look("only round b", 0.0, () -> {
            RangingNet net = Nets.oneSpot();
            net.exchange(0, 1, 0, 1);
            return net;
        }, call);
    }
}
