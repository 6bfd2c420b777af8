import java.util.function.BiFunction;
import java.util.function.Supplier;

/** The sentences of the promises 8 to 15: exchanges, plans, time. */
final class ExchangePromises {
    private static final String NO_NODE = "Throws `IndexOutOfBoundsException` if there is no such node";
    private static final String NO_EXCHANGE = "Throws `IndexOutOfBoundsException` if there is no such exchange";
    private static final int[] FAR_REPLIES = {Checks.LOW, -1, 400001, Checks.HIGH};
    private static final int[] FAR_TIMES = {Checks.LOW, -1, 900000001, Checks.HIGH};

    private ExchangePromises() {
    }

    static void tell(Sentences s) {
        tellExchange(s);
        tellPlan(s);
        tellRun(s);
        tellRecords(s);
    }

    private static void tellExchange(Sentences s) {
        s.promise(8, "Carries out an exchange at the present time.", ExchangePromises::exchangeNow);
        s.promise(8, "Undoable.", c -> {
            c.undoable("the first", () -> Nets.nodes(2), net -> net.exchange(0, 1, 0, 0));
            c.undoable("the fortieth", () -> Nets.exchanges(39), net -> net.exchange(1, 0, 400000, 400000));
            c.undoable("one that takes no time", Nets::oneSpot, net -> net.exchange(0, 1, 0, 0));
        });
        s.promise(8, "- `a`: the initiator", c -> {
            NodePromises.nodeNumbers(c, 2, (net, a) -> net.exchange(a, a == 0 ? 1 : 0, 0, 0));
            c.due("initiator", 5, () -> {
                RangingNet net = Nets.nodes(6);
                return net.party(net.exchange(5, 0, 0, 0), 0);
            });
        });
        s.promise(8, "- `b`: the responder", c -> {
            NodePromises.nodeNumbers(c, 2, (net, b) -> net.exchange(b == 0 ? 1 : 0, b, 0, 0));
            c.due("responder", 5, () -> {
                RangingNet net = Nets.nodes(6);
                return net.party(net.exchange(0, 5, 0, 0), 1);
            });
        });
        s.promise(8, "- `reply1`: first reply time, 0 to 400000", c -> {
            for (int reply : new int[] {0, 1, 399999, 400000}) {
                RangingNet net = Nets.nodes(2);
                c.due("reply " + reply, 0, () -> net.exchange(0, 1, reply, 3));
                c.due("p3 - p2", reply, () -> net.stamp(0, 3) - net.stamp(0, 2));
                c.due("now", 33 + reply, net::now);
            }
            refusedReplies(c, (net, reply) -> net.exchange(0, 1, reply, 0));
        });
        s.promise(8, "- `reply2`: second reply time, 0 to 400000", c -> {
            for (int reply : new int[] {0, 1, 399999, 400000}) {
                RangingNet net = Nets.nodes(2);
                c.due("reply " + reply, 0, () -> net.exchange(0, 1, 3, reply));
                c.due("p5 - p4", reply, () -> net.stamp(0, 5) - net.stamp(0, 4));
                c.due("now", 33 + reply, net::now);
            }
            refusedReplies(c, (net, reply) -> net.exchange(0, 1, 0, reply));
        });
        s.promise(8, "Returns the number of the exchange.", ExchangePromises::exchangeReturns);
        s.promise(8, NO_NODE, c -> {
            NodePromises.noSuchNode(c, (net, a) -> net.exchange(a, 0, 0, 0));
            NodePromises.noSuchNode(c, (net, b) -> net.exchange(0, b, 0, 0));
            NodePromises.noSuchNode(c, (net, both) -> net.exchange(both, both, -1, 400001));
        });
        s.promise(8, "Throws `IllegalArgumentException` if a equals b, or a reply time is out of range", c -> {
            sameNodeRefused(c, (net, node) -> net.exchange(node, node, 0, 0));
            refusedReplies(c, (net, reply) -> net.exchange(0, 1, reply, reply));
            for (int reply : FAR_REPLIES) {
                c.refused("with a full record", Checks.ARGUMENT, Nets::full, net -> net.exchange(0, 1, reply, 0));
                c.refused("with a full record", Checks.ARGUMENT, Nets::full, net -> net.exchange(0, 1, 0, reply));
            }
        });
        s.promise(8, "Throws `IllegalStateException` if 40 exchanges are recorded", c -> {
            c.taken("with 39", () -> Nets.exchanges(39), net -> net.exchange(0, 1, 0, 0));
            c.refused("with 40", Checks.STATE, () -> Nets.exchanges(40), net -> net.exchange(0, 1, 0, 0));
            c.refused("with 40", Checks.STATE, Nets::full, net -> net.exchange(4, 5, 400000, 400000));
            c.taken("with 40 and a planned one of them undone", () -> {
                RangingNet net = Nets.exchanges(39);
                net.plan(2000, 0, 1, 0, 0);
                net.run(2000);
                net.undo();
                return net;
            }, net -> net.exchange(0, 1, 0, 0));
        });
    }

    private static void tellPlan(Sentences s) {
        s.promise(9, "Plans an exchange.", ExchangePromises::planPlans);
        s.promise(9, "Undoable.", c -> {
            c.undoable("the first", () -> Nets.nodes(2), net -> net.plan(0, 0, 1, 0, 0));
            c.undoable("the twentieth, as the next", () -> Nets.plans(19), net -> net.plan(999, 1, 0, 400000, 400000));
            c.undoable("the twentieth, as the last", () -> Nets.plans(19), net -> net.plan(1001, 1, 0, 1, 2));
        });
        s.promise(9, "- `time`: planned true time, 0 to 900000000", c -> {
            for (int time : new int[] {0, 1, 899999999, 900000000}) {
                RangingNet net = Nets.nodes(2);
                c.due("time " + time, 1, () -> net.plan(time, 0, 1, 0, 0));
                c.due("planned time", time, net::nextPlanned);
                c.due("carried out", 1, () -> net.run(time));
                c.due("now", time + 30, net::now);
            }
            for (int time : FAR_TIMES) {
                c.refused("time " + time, Checks.ARGUMENT, () -> Nets.nodes(2), net -> net.plan(time, 0, 1, 0, 0));
            }
        });
        s.promise(9, "- `a`: the initiator", c -> {
            NodePromises.nodeNumbers(c, 2, (net, a) -> net.plan(7, a, a == 0 ? 1 : 0, 0, 0));
            c.due("initiator", 5, () -> planned(5, 0).party(0, 0));
        });
        s.promise(9, "- `b`: the responder", c -> {
            NodePromises.nodeNumbers(c, 2, (net, b) -> net.plan(7, b == 0 ? 1 : 0, b, 0, 0));
            c.due("responder", 5, () -> planned(0, 5).party(0, 1));
        });
        s.promise(9, "- `reply1`: first reply time, 0 to 400000", c -> {
            for (int reply : new int[] {0, 1, 399999, 400000}) {
                RangingNet net = Nets.nodes(2);
                c.due("reply " + reply, 1, () -> net.plan(0, 0, 1, reply, 3));
                c.due("carried out", 1, () -> net.run(0));
                c.due("p3 - p2", reply, () -> net.stamp(0, 3) - net.stamp(0, 2));
                c.due("now", 33 + reply, net::now);
            }
            refusedReplies(c, (net, reply) -> net.plan(0, 0, 1, reply, 0));
        });
        s.promise(9, "- `reply2`: second reply time, 0 to 400000", c -> {
            for (int reply : new int[] {0, 1, 399999, 400000}) {
                RangingNet net = Nets.nodes(2);
                c.due("reply " + reply, 1, () -> net.plan(0, 0, 1, 3, reply));
                c.due("carried out", 1, () -> net.run(0));
                c.due("p5 - p4", reply, () -> net.stamp(0, 5) - net.stamp(0, 4));
                c.due("now", 33 + reply, net::now);
            }
            refusedReplies(c, (net, reply) -> net.plan(0, 0, 1, 0, reply));
        });
        s.promise(9, "Returns the number of exchanges that are waiting.", ExchangePromises::planReturns);
        s.promise(9, NO_NODE, c -> {
            NodePromises.noSuchNode(c, (net, a) -> net.plan(0, a, 0, 0, 0));
            NodePromises.noSuchNode(c, (net, b) -> net.plan(0, 0, b, 0, 0));
            NodePromises.noSuchNode(c, (net, both) -> net.plan(-1, both, both, -1, 400001));
        });
        s.promise(9, "Throws `IllegalArgumentException` if a equals b, or time or a reply time is out of range", c -> {
            sameNodeRefused(c, (net, node) -> net.plan(0, node, node, 0, 0));
            refusedReplies(c, (net, reply) -> net.plan(0, 0, 1, reply, reply));
            for (int time : FAR_TIMES) {
                c.refused("time " + time, Checks.ARGUMENT, () -> Nets.nodes(2), net -> net.plan(time, 0, 1, 0, 0));
                c.refused("20 are waiting", Checks.ARGUMENT, Nets::full, net -> net.plan(time, 0, 1, 0, 0));
            }
            for (int reply : FAR_REPLIES) {
                c.refused("20 are waiting", Checks.ARGUMENT, Nets::full, net -> net.plan(0, 0, 1, reply, 0));
                c.refused("20 are waiting", Checks.ARGUMENT, Nets::full, net -> net.plan(0, 0, 1, 0, reply));
            }
        });
        s.promise(9, "Throws `IllegalStateException` if 20 exchanges are waiting", c -> {
            c.taken("with 19", () -> Nets.plans(19), net -> net.plan(0, 0, 1, 0, 0));
            c.refused("with 20", Checks.STATE, () -> Nets.plans(20), net -> net.plan(0, 0, 1, 0, 0));
            c.refused("with 20", Checks.STATE, Nets::full, net -> net.plan(900000000, 4, 5, 400000, 400000));
            c.taken("with a full record, but none waiting", () -> Nets.exchanges(40), net -> net.plan(0, 0, 1, 0, 0));
            c.taken("with 20 that were dropped", () -> {
                RangingNet net = Nets.full();
                net.run(1000);
                return net;
            }, net -> net.plan(0, 0, 1, 0, 0));
        });

        s.promise(10, "Returns the planned time of the exchange that would be carried out next.",
                ExchangePromises::nextPlannedIsTheEarliest);
        s.promise(10, "Returns the planned time; NONE if no exchange is waiting.",
                ExchangePromises::nextPlannedOfNone);
    }

    private static void tellRun(Sentences s) {
        s.promise(11, "Runs until a true time.", ExchangePromises::runRuns);
        s.promise(11, "Undoable.", c -> {
            c.undoable("without plans", RangingNet::new, net -> net.run(900000000));
            c.undoable("with one that is carried out", () -> Nets.plans(1), net -> net.run(1000));
            c.undoable("with twenty that are carried out", () -> Nets.plans(20), net -> net.run(1000));
            c.undoable("with one that stays", () -> Nets.plans(1), net -> net.run(999));
            c.undoable("with twenty that are dropped", Nets::full, net -> net.run(1000));
        });
        s.promise(11, "- `time`: 0 to 900000000", c -> {
            for (int time : new int[] {0, 1, 899999999, 900000000}) {
                RangingNet net = new RangingNet();
                c.due("time " + time, 0, () -> net.run(time));
                c.due("now", time, net::now);
            }
            for (int time : FAR_TIMES) {
                c.refused("time " + time, Checks.ARGUMENT, RangingNet::new, net -> net.run(time));
            }
        });
        s.promise(11, "Returns the number of exchanges that were carried out (dropped ones not counted).",
                ExchangePromises::runReturns);
        s.promise(11, "Throws `IllegalArgumentException` if time is out of range", c -> {
            for (int time : FAR_TIMES) {
                c.refused("with plans", Checks.ARGUMENT, () -> Nets.plans(2), net -> net.run(time));
                c.refused("with all full", Checks.ARGUMENT, Nets::full, net -> net.run(time));
            }
        });
    }

    private static void tellRecords(Sentences s) {
        s.promise(12, "Returns the present true time.", c -> {
            c.look("of a new object", 0L, RangingNet::new, RangingNet::now);
            c.look("after exchanges", 1200L, () -> Nets.exchanges(40), RangingNet::now);
            c.look("after plans", 0L, () -> Nets.plans(20), RangingNet::now);
            c.look("after other changes", 0L, () -> {
                RangingNet net = Nets.nodes(2);
                net.move(0, 1000, 1000);
                net.assume(1, 1000);
                return net;
            }, RangingNet::now);
        });
        s.promise(12, "Returns the present time.", c -> {
            RangingNet net = Nets.plans(1);
            net.run(500);
            c.due("after a run", 500L, net::now);
            net.run(1000);
            c.due("after a planned exchange", 1030L, net::now);
            net.undo();
            c.due("after an undo", 500L, net::now);
            net.run(900000000);
            c.due("the latest run", 900000000L, net::now);
        });
        s.promise(13, "Returns the number of recorded exchanges.", c -> {
            RangingNet net = Nets.plans(3);
            c.due("only planned", 0, net::exchanges);
            net.run(1000);
            c.due("carried out", 3, net::exchanges);
            net.exchange(0, 1, 0, 0);
            c.due("one more", 4, net::exchanges);
            net.undo();
            net.undo();
            c.due("undone", 0, net::exchanges);
        });
        s.promise(13, "Returns the number of exchanges, 0 to 40.", c -> {
            for (int count : new int[] {0, 1, 39, 40}) {
                c.look("of " + count, count, () -> Nets.exchanges(count), RangingNet::exchanges);
            }
        });

        s.promise(14, "Returns a counter of an exchange.", ExchangePromises::stamps);
        s.promise(14, "- `exchange`: number of an exchange", c -> exchangeNumbers(c, (net, e) -> net.stamp(e, 1)));
        s.promise(14, "- `which`: 1 to 6, for p1 to p6", c -> {
            int[] due = {0, 10, 10, 20, 20, 30};
            for (int which = 1; which <= 6; which++) {
                int w = which;
                c.look("p" + w, due[w - 1], () -> Nets.exchanges(1), net -> net.stamp(0, w));
            }
            c.refused("p0", Checks.ARGUMENT, () -> Nets.exchanges(1), net -> net.stamp(0, 0));
            c.refused("p7", Checks.ARGUMENT, () -> Nets.exchanges(1), net -> net.stamp(0, 7));
        });
        s.promise(14, "Returns the counter.", ExchangePromises::leastAndGreatestStamp);
        s.promise(14, NO_EXCHANGE, c -> noSuchExchange(c, (net, e) -> net.stamp(e, 1)));
        s.promise(14, "Throws `IllegalArgumentException` if which is out of range", c -> {
            for (int which : new int[] {Checks.LOW, -1, 0, 7, Checks.HIGH}) {
                c.refused("which " + which, Checks.ARGUMENT, Nets::full, net -> net.stamp(39, which));
            }
        });

        s.promise(15, "Returns the initiator or the responder of an exchange.", ExchangePromises::parties);
        s.promise(15, "- `exchange`: number of an exchange", c -> exchangeNumbers(c, (net, e) -> net.party(e, 0)));
        s.promise(15, "- `which`: 0 for the initiator, 1 for the responder", c -> {
            Supplier<RangingNet> one = () -> {
                RangingNet net = Nets.nodes(6);
                net.exchange(4, 2, 0, 0);
                return net;
            };
            c.look("initiator", 4, one, net -> net.party(0, 0));
            c.look("responder", 2, one, net -> net.party(0, 1));
            c.refused("which -1", Checks.ARGUMENT, one, net -> net.party(0, -1));
            c.refused("which 2", Checks.ARGUMENT, one, net -> net.party(0, 2));
        });
        s.promise(15, "Returns the number of the node.", c -> {
            c.look("the least", 0, Nets::full, net -> net.party(0, 0));
            c.look("the greatest", 5, Nets::full, net -> net.party(0, 1));
        });
        s.promise(15, NO_EXCHANGE, c -> noSuchExchange(c, (net, e) -> net.party(e, 0)));
        s.promise(15, "Throws `IllegalArgumentException` if which is neither 0 nor 1", c -> {
            for (int which : new int[] {Checks.LOW, -1, 2, Checks.HIGH}) {
                c.refused("which " + which, Checks.ARGUMENT, Nets::full, net -> net.party(39, which));
            }
        });
    }

    // ---- what exchanges have in common

    /** All numbers below the number of exchanges are taken; the ones next to them are not. */
    static void exchangeNumbers(Checks c, BiFunction<RangingNet, Integer, Object> call) {
        for (int count : new int[] {0, 1, 2, 39, 40}) {
            for (int exchange = -1; exchange <= count; exchange++) {
                int e = exchange;
                String what = "exchange " + exchange + " of " + count;
                if (e < 0 || e == count) {
                    c.refused(what, Checks.NO_SUCH, () -> Nets.exchanges(count), net -> call.apply(net, e));
                } else {
                    c.taken(what, () -> Nets.exchanges(count), net -> call.apply(net, e));
                }
            }
        }
    }

    static void noSuchExchange(Checks c, BiFunction<RangingNet, Integer, Object> call) {
        for (int exchange : new int[] {Checks.LOW, -1, 40, 41, Checks.HIGH}) {
            c.refused("exchange " + exchange, Checks.NO_SUCH, Nets::full, net -> call.apply(net, exchange));
            c.refused("exchange " + exchange, Checks.NO_SUCH, RangingNet::new, net -> call.apply(net, exchange));
        }
        c.refused("an exchange that only waits", Checks.NO_SUCH, () -> Nets.plans(1), net -> call.apply(net, 0));
        Supplier<RangingNet> undone = () -> {
            RangingNet net = Nets.exchanges(3);
            net.undo();
            return net;
        };
        c.refused("an exchange that was undone", Checks.NO_SUCH, undone, net -> call.apply(net, 2));
    }

    private static void refusedReplies(Checks c, BiFunction<RangingNet, Integer, Object> call) {
        for (int reply : FAR_REPLIES) {
            c.refused("reply " + reply, Checks.ARGUMENT, () -> Nets.nodes(2), net -> call.apply(net, reply));
        }
    }

    private static void sameNodeRefused(Checks c, BiFunction<RangingNet, Integer, Object> call) {
        for (int node = 0; node < 6; node++) {
            int n = node;
            c.refused("node " + n + " twice", Checks.ARGUMENT, () -> Nets.nodes(6), net -> call.apply(net, n));
            c.refused("node " + n + " twice", Checks.ARGUMENT, Nets::full, net -> call.apply(net, n));
        }
    }

    // ---- promise 8

    private static void exchangeNow(Checks c) {
        RangingNet net = new RangingNet();
        net.addNode(0, 0, 0, 0, 15);
        net.addNode(30, 40, 0, 1000, 5);
        net.exchange(0, 1, 10, 20);
        net.run(300);
        net.exchange(1, 0, 30, 40);
        // The way is 70: the second one's messages go at 300, 400 and 510 and come at 370, 470 and 580.
        int[][] due = {{0, 1070, 1080, 150, 170, 1240}, {1300, 370, 400, 1470, 1510, 580}};
        for (int which = 1; which <= 6; which++) {
            int w = which;
            c.due("first, p" + w, due[0][w - 1], () -> net.stamp(0, w));
            c.due("second, p" + w, due[1][w - 1], () -> net.stamp(1, w));
        }
        c.due("now", 580L, net::now);
        RangingNet planned = Nets.plans(1);
        planned.exchange(1, 0, 5000, 0);
        c.due("a plan that is due meanwhile still waits", 1000, planned::nextPlanned);
        c.due("and is carried out by the next run", 1, () -> planned.run(1000));
    }

    private static void exchangeReturns(Checks c) {
        RangingNet net = Nets.nodes(2);
        for (int exchange = 0; exchange < 40; exchange++) {
            c.due("number", exchange, () -> net.exchange(0, 1, 0, 0));
        }
        net.undo();
        net.undo();
        c.due("number after two undos", 38, () -> net.exchange(0, 1, 0, 0));
        RangingNet planned = Nets.plans(3);
        planned.run(1000);
        c.due("number behind three that were planned", 3, () -> planned.exchange(1, 0, 0, 0));
    }

    // ---- promises 9 and 10

    private static RangingNet planned(int a, int b) {
        RangingNet net = Nets.nodes(6);
        net.plan(5, a, b, 0, 0);
        net.run(5);
        return net;
    }

    private static void planPlans(Checks c) {
        RangingNet net = Nets.nodes(2);
        net.plan(77, 1, 0, 5, 6);
        c.due("all of it", Nets.hash(0, 2, 0, 0, 0, 0, 0, 0, 0, 10, 0, 0, 0, 0, 0, 0, 0, 1, 77, 1, 0, 5, 6, 3),
                net::digest);
        net.move(0, 20, 0);
        net.move(1, 25, 0);
        c.due("carried out", 1, () -> net.run(80));
        c.due("where the nodes stand then", 5, () -> net.stamp(0, 2) - net.stamp(0, 1));
        c.due("begun at the planned time", 77, () -> net.stamp(0, 1));
    }

    private static void planReturns(Checks c) {
        RangingNet net = Nets.nodes(2);
        for (int waiting = 1; waiting <= 20; waiting++) {
            c.due("waiting", waiting, () -> net.plan(0, 0, 1, 0, 0));
        }
        net.undo();
        net.undo();
        c.due("waiting after two undos", 19, () -> net.plan(900, 0, 1, 0, 0));
        net.run(0);
        c.due("waiting after a run", 2, () -> net.plan(0, 0, 1, 0, 0));
    }

    private static void nextPlannedIsTheEarliest(Checks c) {
        RangingNet net = Nets.nodes(2);
        int[][] due = {{500, 500}, {700, 500}, {500, 500}, {499, 499}, {0, 0}, {900000000, 0}};
        for (int[] each : due) {
            net.plan(each[0], 0, 1, 0, 0);
            c.due("after plan(" + each[0] + ")", each[1], net::nextPlanned);
        }
        net.run(499);
        c.due("after run(499)", 500, net::nextPlanned);
        net.run(500);
        c.due("after run(500)", 700, net::nextPlanned);
        net.run(800);
        c.due("after run(800)", 900000000, net::nextPlanned);
        net.undo();
        c.due("after an undo", 700, net::nextPlanned);
        c.look("in the past", 1000, () -> {
            RangingNet late = Nets.plans(2);
            late.exchange(0, 1, 400000, 0);
            return late;
        }, RangingNet::nextPlanned);
    }

    private static void nextPlannedOfNone(Checks c) {
        c.look("of a new object", RangingNet.NONE, RangingNet::new, RangingNet::nextPlanned);
        c.look("planned for 0", 0, () -> {
            RangingNet net = Nets.nodes(2);
            net.plan(0, 0, 1, 0, 0);
            return net;
        }, RangingNet::nextPlanned);
        RangingNet net = Nets.plans(20);
        net.run(1000);
        c.due("all carried out", RangingNet.NONE, net::nextPlanned);
        RangingNet full = Nets.full();
        full.run(1000);
        c.due("all dropped", RangingNet.NONE, full::nextPlanned);
        RangingNet undone = Nets.plans(1);
        undone.undo();
        c.due("undone", RangingNet.NONE, undone::nextPlanned);
    }

    // ---- promise 11

    private static void runRuns(Checks c) {
        RangingNet net = Nets.nodes(3);
        net.plan(300, 0, 1, 5, 5);
        net.plan(200, 1, 2, 100, 0);
        net.plan(300, 2, 0, 0, 0);
        net.plan(200, 2, 1, 0, 0);
        net.plan(301, 1, 0, 0, 0);
        c.due("until just before", 0, () -> net.run(199));
        c.due("now", 199L, net::now);
        c.due("until 300", 4, () -> net.run(300));
        int[][] due = {{1, 2, 200}, {2, 1, 330}, {0, 1, 360}, {2, 0, 400}};
        for (int i = 0; i < due.length; i++) {
            int exchange = i;
            c.due("initiator", due[i][0], () -> net.party(exchange, 0));
            c.due("responder", due[i][1], () -> net.party(exchange, 1));
            c.due("begin", due[i][2], () -> net.stamp(exchange, 1));
        }
        c.due("now", 460L, net::now);
        c.due("the next one", 301, net::nextPlanned);
    }

    private static void runReturns(Checks c) {
        c.due("without plans", 0, () -> Nets.exchanges(3).run(900000000));
        c.due("one", 1, () -> Nets.plans(1).run(1000));
        c.due("twenty", 20, () -> Nets.plans(20).run(1000));
        c.due("twenty, all later", 0, () -> Nets.plans(20).run(999));
        for (int recorded = 19; recorded <= 40; recorded++) {
            RangingNet net = Nets.exchanges(recorded);
            for (int i = 0; i < 20; i++) {
                net.plan(2000 - i, 0, 1, 0, 0);
            }
            c.due("twenty behind " + recorded, Math.min(20, 40 - recorded), () -> net.run(2000));
            c.due("recorded", Math.min(40, recorded + 20), net::exchanges);
            c.due("a second time", 0, () -> net.run(2000));
        }
    }

    // ---- promises 14 and 15

    private static void stamps(Checks c) {
        RangingNet net = Nets.exchanges(40);
        for (int exchange = 0; exchange < 40; exchange++) {
            int e = exchange;
            int[] due = {0, 10, 10, 20, 20, 30};
            for (int which = 1; which <= 6; which++) {
                int w = which;
                c.due("p" + w + " of " + e, 30 * e + due[w - 1], () -> net.stamp(e, w));
            }
        }
    }

    private static void leastAndGreatestStamp(Checks c) {
        RangingNet net = new RangingNet();
        net.addNode(0, 0, 0, 1048575, 0);
        net.addNode(1, 0, 0, 1048575, 0);
        net.exchange(0, 1, 0, 0);
        c.due("greatest", 1048575, () -> net.stamp(0, 1));
        c.due("least", 0, () -> net.stamp(0, 2));
        c.due("the next", 1, () -> net.stamp(0, 4));
    }

    private static void parties(Checks c) {
        RangingNet net = Nets.full();
        for (int exchange = 0; exchange < 40; exchange++) {
            int e = exchange;
            c.due("initiator of " + e, e % 5, () -> net.party(e, 0));
            c.due("responder of " + e, 5, () -> net.party(e, 1));
        }
        net.move(0, 500, 500);
        c.due("after a move", 0, () -> net.party(0, 0));
    }
}
