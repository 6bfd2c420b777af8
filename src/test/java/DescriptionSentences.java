import java.util.function.Function;
import java.util.function.Supplier;

/** The sentences of "What it is", and those of "Description" on time, nodes, messages, exchanges and ranges. */
final class DescriptionSentences {
    private static final int WRAP = 1048576;

    private DescriptionSentences() {
    }

    static void tell(Sentences s) {
        s.about("A simulator of two-way ranging between nodes whose clocks drift and whose counters wrap",
                DescriptionSentences::driftAndWrap);
        s.about("An object is used for at most 512 calls after it has been made", DescriptionSentences::lastCalls);

        s.description("True time is counted in ticks, from 0", DescriptionSentences::timeFromZero);
        s.description("it is the present time of the simulator", DescriptionSentences::presentTime);
        s.description("A message travels one unit of distance in one tick.", DescriptionSentences::oneUnitInOneTick);
        s.description("There are at most 6 nodes, numbered from 0.", DescriptionSentences::sixNodes);
        s.description("an assumed delay (initially 0)", DescriptionSentences::assumedInitiallyZero);
        s.description("A node has a position x, y (each -1000 to 1000), a drift (-100 to 100, in millionths), an offset"
                + " (0 to 1048575), an antenna delay (0 to 200 ticks)", DescriptionSentences::whatANodeHas);
        s.description("The distance of two nodes is the square root of the sum of the squares of the differences of"
                + " their coordinates, rounded down.", DescriptionSentences::distanceRoundedDown);
        s.description("The counter of a node at the true time T is (floor(T * (1000000 + drift) / 1000000) + offset)",
                DescriptionSentences::counterRoundedDown);
        s.description("modulo 1048576, not negative.", DescriptionSentences::counterWraps);
        s.description("is received at T + (antenna delay of a) + (distance of a and b) + (antenna delay of b).",
                DescriptionSentences::leastAndGreatestWay);
        s.description("The counters at sending and receiving are those of the sending node at T and of the receiving"
                + " node at that time.", DescriptionSentences::whoseCounter);
        s.description("An exchange is between an initiator a and a responder b", DescriptionSentences::eachDirection);
        s.description("with two reply times, each 0 to 400000 ticks.", DescriptionSentences::replyTimes);
        s.description("It begins at a true time: a sends the poll, b receives it; the first reply time later b sends"
                + " the response, a receives it; the second reply time later a sends the final, b receives it.",
                DescriptionSentences::threeMessages);
        s.description("(Reply times are in true ticks.)", DescriptionSentences::repliesInTrueTicks);
        s.description("Let the counters be p1 (a sends the poll), p2 (b receives it), p3 (b sends the response), p4 (a"
                + " receives it), p5 (a sends the final), p6 (b receives it).", DescriptionSentences::sixCounters);
        s.description("All differences of counters are modulo 1048576, not negative",
                DescriptionSentences::differencesWrap);
        s.description("At most 40 exchanges are recorded", DescriptionSentences::fortyExchanges);
        s.description("numbered from 0 in the order in which they were carried out",
                DescriptionSentences::numberedAsCarriedOut);
        s.description("after an exchange the present time is the true time at which the final was received.",
                DescriptionSentences::timeAfterAnExchange);
        s.description("0 (single-sided): (round a - reply b) / 2;", DescriptionSentences::singleSided);
        s.description("1 (symmetric double-sided): (round a - reply b + round b - reply a) / 4;",
                DescriptionSentences::symmetric);
        s.description("2 (asymmetric double-sided): (round a * round b - reply a * reply b) / (round a + round b +"
                + " reply a + reply b)", DescriptionSentences::asymmetric);
        s.description("and 0 if the divisor is 0;", DescriptionSentences::divisorZero);
        s.description("each rounded down (toward minus infinity).", DescriptionSentences::rangesRoundedDown);
        s.description("The range is the raw range minus the assumed delays of both nodes.",
                DescriptionSentences::minusAssumedDelays);
        s.description("The error of an exchange by a method is its range minus the distance that its nodes have now.",
                DescriptionSentences::errorByDistanceNow);
        s.description("The latest range of two nodes by a method is the range of the latest recorded exchange between"
                + " them, whichever of them was the initiator.", DescriptionSentences::latestWhicheverInitiated);
    }

    // ---- what it is

    /** The second example of the document, with counters that wrap: what drifts past in a wrap is the same. */
    private static void driftAndWrap(Checks c) {
        for (int offset = 0; offset <= 1048575; offset += 65535) {
            RangingNet net = new RangingNet();
            net.addNode(0, 0, 100, offset, 0);
            net.addNode(300, 400, -100, 1048575 - offset, 0);
            net.exchange(0, 1, 400000, 400000);
            c.due("single-sided, offset " + offset, 540, () -> net.range(0, 0));
            c.due("symmetric, offset " + offset, 500, () -> net.range(0, 1));
            c.due("asymmetric, offset " + offset, 500, () -> net.range(0, 2));
            c.due("drift, offset " + offset, 199.77026419626398, () -> net.relativeDrift(0));
        }
    }

    private static void lastCalls(Checks c) {
        RangingNet net = Nets.nodes(6);
        for (int call = 7; call <= 512; call += 2) {
            int delay = call;
            c.due("call " + call, call == 7 ? 0 : call - 2, () -> net.assume(5, delay));
            c.due("call " + (call + 1), delay, () -> net.assumed(5));
        }
        RangingNet forth = Nets.nodes(2);
        for (int call = 3; call <= 512; call += 2) {
            int again = call;
            c.due("call " + call, 0, () -> forth.exchange(again % 2, 1 - again % 2, 400000, 400000));
            c.due("call " + (call + 1), 2, forth::undo);
        }
    }

    // ---- time

    private static void timeFromZero(Checks c) {
        c.look("now() of a new object", 0L, RangingNet::new, RangingNet::now);
        c.look("counter at 0", 0, () -> Nets.nodes(1), net -> net.counter(0, 0));
        c.refused("counter before 0", Checks.ARGUMENT, () -> Nets.nodes(1), net -> net.counter(0, -1));
        c.taken("run until 0", RangingNet::new, net -> net.run(0));
        c.refused("run until -1", Checks.ARGUMENT, RangingNet::new, net -> net.run(-1));
    }

    private static void presentTime(Checks c) {
        Supplier<RangingNet> later = () -> {
            RangingNet net = Nets.nodes(2);
            net.run(777);
            return net;
        };
        c.look("now()", 777L, later, RangingNet::now);
        c.due("an exchange begins then", 777, () -> {
            RangingNet net = later.get();
            return net.stamp(net.exchange(0, 1, 0, 0), 1);
        });
    }

    private static void oneUnitInOneTick(Checks c) {
        int[][] ways = {{0, 0, 0}, {1, 0, 1}, {0, -1, 1}, {1, 1, 1}, {2, 0, 2}, {300, 400, 500}, {-1000, 0, 1000}};
        for (int[] way : ways) {
            RangingNet net = Nets.oneSpot();
            net.move(1, way[0], way[1]);
            net.exchange(0, 1, 0, 0);
            c.due("poll received over " + way[2], way[2], () -> net.stamp(0, 2));
            c.due("three messages over " + way[2], 3 * way[2], net::now);
        }
    }

    // ---- nodes

    private static void sixNodes(Checks c) {
        for (int count = 0; count < 6; count++) {
            int node = count;
            c.due("node " + node, node, () -> Nets.nodes(node).addNode(0, 0, 0, 0, 0));
        }
        c.refused("a seventh", Checks.STATE, () -> Nets.nodes(6), net -> net.addNode(0, 0, 0, 0, 0));
        RangingNet net = Nets.nodes(6);
        net.undo();
        c.due("a sixth after an undo", 5, () -> net.addNode(0, 0, 0, 0, 0));
        c.due("still no seventh", Checks.STATE, () -> net.addNode(0, 0, 0, 0, 0));
    }

    private static void assumedInitiallyZero(Checks c) {
        RangingNet net = new RangingNet();
        net.addNode(0, 0, 0, 0, 200);
        c.due("with an antenna delay", 0, () -> net.assumed(0));
        net.assume(0, 5);
        net.addNode(0, 0, 0, 0, 0);
        c.due("beside a node that has one", 0, () -> net.assumed(1));
        net.assume(1, 6);
        net.undo();
        net.undo();
        net.addNode(0, 0, 0, 0, 0);
        c.due("of a node in the place of one that was undone", 0, () -> net.assumed(1));
        net.assume(1, 7);
        net.undo();
        c.due("after an undo", 0, () -> net.assumed(1));
    }

    private static void whatANodeHas(Checks c) {
        int[][] nodes = {{-1000, -1000, -100, 0, 0}, {1000, 1000, 100, 1048575, 200}, {-1000, 1000, 100, 0, 200},
            {1000, -1000, -100, 1048575, 0}, {0, 0, 0, 0, 0}, {1, 2, 3, 4, 5}};
        for (int[] n : nodes) {
            RangingNet net = new RangingNet();
            c.due("node", 0, () -> net.addNode(n[0], n[1], n[2], n[3], n[4]));
            c.due("all of it", Nets.hash(0, 1, n[0], n[1], n[2], n[3], n[4], 0, n[3], 0, 0, 1), net::digest);
        }
    }

    /** All ways of which the square stands on, just below or just above the square of a whole number. */
    private static void distanceRoundedDown(Checks c) {
        int moves = 0;
        RangingNet net = Nets.oneSpot();
        for (int dx = 0; dx <= 2000; dx++) {
            for (int dy = dx; dy <= 2000; dy++) {
                int square = dx * dx + dy * dy;
                int near = (int) Math.round(Math.sqrt(square));
                if (Math.abs(near * near - square) <= 1) {
                    if (++moves % 200 == 0) {
                        net = Nets.oneSpot();
                    }
                    RangingNet now = net;
                    now.move(0, dx - 1000, 1000);
                    now.move(1, -1000, 1000 - dy);
                    c.due("distance by " + dx + " and " + dy, near * near > square ? near - 1 : near,
                            () -> now.distance(0, 1));
                }
            }
        }
        c.due("greatest distance", 2828, () -> {
            RangingNet far = Nets.oneSpot();
            far.move(0, -1000, -1000);
            far.move(1, 1000, 1000);
            return far.distance(1, 0);
        });
    }

    private static void counterRoundedDown(Checks c) {
        int[][] slow = {{0, 0}, {1, 0}, {2, 1}, {9999, 9998}, {10000, 9999}, {10001, 9999}, {10002, 10000}};
        int[][] fast = {{0, 0}, {1, 1}, {9999, 9999}, {10000, 10001}, {10001, 10002}, {19999, 20000}, {20000, 20002}};
        for (int[] each : slow) {
            c.look("100 millionths slow", each[1], () -> Nets.clocks(-100, 0), net -> net.counter(0, each[0]));
        }
        for (int[] each : fast) {
            c.look("100 millionths fast", each[1], () -> Nets.clocks(0, 100), net -> net.counter(1, each[0]));
        }
        c.look("one millionth slow", 999998, () -> Nets.clocks(-1, 0), net -> net.counter(0, 999999));
        c.look("one millionth slow", 999999, () -> Nets.clocks(-1, 0), net -> net.counter(0, 1000000));
        c.look("one millionth slow", 999999, () -> Nets.clocks(-1, 0), net -> net.counter(0, 1000001));
        c.look("one millionth fast", 999999, () -> Nets.clocks(1, 0), net -> net.counter(0, 999999));
        c.look("one millionth fast", 1000001, () -> Nets.clocks(1, 0), net -> net.counter(0, 1000000));
    }

    private static void counterWraps(Checks c) {
        Supplier<RangingNet> wrapping = () -> {
            RangingNet net = new RangingNet();
            net.addNode(0, 0, 0, 0, 0);
            net.addNode(0, 0, 0, 1, 0);
            net.addNode(0, 0, 0, 1048575, 0);
            net.addNode(0, 0, -100, 1048575, 0);
            net.addNode(0, 0, 100, 1048575, 0);
            return net;
        };
        int[][] due = {{0, 1048575, 1048575}, {0, 1048576, 0}, {0, 2097151, 1048575}, {0, 2097152, 0},
            {1, 1048574, 1048575}, {1, 1048575, 0}, {2, 0, 1048575}, {2, 1, 0}, {2, 1048576, 1048575},
            {2, 1048577, 0}, {3, 1, 1048575}, {3, 2, 0}, {4, 1, 0}, {0, 1000000000, 707072},
            {2, 1000000000, 707071}, {3, 1000000000, 607071}, {4, 1000000000, 807071}};
        for (int[] each : due) {
            c.look("counter of " + each[0] + " at " + each[1], each[2], wrapping,
                    net -> net.counter(each[0], each[1]));
        }
    }

    // ---- messages

    private static void leastAndGreatestWay(Checks c) {
        int[][] ways = {{0, 0, 0}, {0, 0, 1}, {1, 0, 0}, {200, 0, 0}, {0, 0, 200}, {200, 2828, 200}, {7, 2828, 9}};
        for (int[] way : ways) {
            RangingNet net = new RangingNet();
            int far = way[1] == 0 ? -1000 : 1000;
            net.addNode(-1000, -1000, 0, 0, way[0]);
            net.addNode(far, far, 0, 0, way[2]);
            net.assume(0, 33);
            net.exchange(0, 1, 0, 0);
            int sum = way[0] + way[1] + way[2];
            int[] stamps = {0, sum, sum, 2 * sum, 2 * sum, 3 * sum};
            for (int which = 1; which <= 6; which++) {
                int w = which;
                c.due("way of " + sum + ", p" + w, stamps[w - 1], () -> net.stamp(0, w));
            }
        }
    }

    private static void whoseCounter(Checks c) {
        RangingNet net = Nets.nodes(0);
        net.addNode(0, 0, 0, 1000, 0);
        net.addNode(0, 30, 0, 500000, 0);
        net.exchange(0, 1, 5, 7);
        int[] stamps = {1000, 500030, 500035, 1065, 1072, 500102};
        for (int which = 1; which <= 6; which++) {
            int w = which;
            c.due("p" + w, stamps[w - 1], () -> net.stamp(0, w));
        }
    }

    // ---- exchanges

    private static void eachDirection(Checks c) {
        for (int a = 0; a < 6; a++) {
            for (int b = 0; b < 6; b++) {
                int first = a;
                int second = b;
                if (a != b) {
                    RangingNet net = Nets.nodes(6);
                    net.exchange(first, second, 0, 0);
                    c.due("initiator", first, () -> net.party(0, 0));
                    c.due("responder", second, () -> net.party(0, 1));
                } else {
                    c.refused("one node alone", Checks.ARGUMENT, () -> Nets.nodes(6),
                            net -> net.exchange(first, second, 0, 0));
                }
            }
        }
    }

    private static void replyTimes(Checks c) {
        int[][] due = {{0, 0, 30}, {400000, 0, 400030}, {0, 400000, 400030}, {400000, 400000, 800030}};
        for (int[] each : due) {
            RangingNet net = Nets.nodes(2);
            net.exchange(0, 1, each[0], each[1]);
            c.due("now", each[2], net::now);
            c.due("p3 - p2", each[0], () -> net.stamp(0, 3) - net.stamp(0, 2));
            c.due("p5 - p4", each[1], () -> net.stamp(0, 5) - net.stamp(0, 4));
        }
        for (int reply : new int[] {-1, 400001, Checks.LOW, Checks.HIGH}) {
            c.refused("first reply time", Checks.ARGUMENT, () -> Nets.nodes(2), net -> net.exchange(0, 1, reply, 0));
            c.refused("second reply time", Checks.ARGUMENT, () -> Nets.nodes(2), net -> net.exchange(0, 1, 0, reply));
        }
    }

    private static void threeMessages(Checks c) {
        RangingNet net = Nets.nodes(2);
        net.run(1000);
        net.exchange(1, 0, 100, 200);
        int[] times = {1000, 1010, 1110, 1120, 1320, 1330};
        for (int which = 1; which <= 6; which++) {
            int w = which;
            c.due("p" + w, times[w - 1], () -> net.stamp(0, w));
        }
    }

    /** By a clock that is 100 millionths fast, 400000 true ticks are 400040. */
    private static void repliesInTrueTicks(Checks c) {
        RangingNet net = Nets.clocks(100, -100);
        net.exchange(0, 1, 400000, 0);
        c.due("now", 400000, net::now);
        c.due("reply b by the responder's counter", 399960, () -> net.stamp(0, 3));
        c.due("by the initiator's counter", 400040, () -> net.stamp(0, 4));
    }

    private static void sixCounters(Checks c) {
        RangingNet net = new RangingNet();
        net.addNode(0, 0, 100, 5, 20);
        net.addNode(0, 1000, -100, 1048575, 30);
        net.run(2000000);
        net.exchange(0, 1, 300000, 400000);
        // The way is 1050: the messages go at 2000000, 2301050 and 2702100 and come at 2001050, 2302100 and 2703150.
        long[] counters = {2000200 + 5, 2000849 + 1048575, 2300819 + 1048575, 2302330 + 5, 2702370 + 5,
            2702879 + 1048575};
        for (int which = 1; which <= 6; which++) {
            int w = which;
            c.due("p" + w, counters[w - 1] % WRAP, () -> net.stamp(0, w));
        }
    }

    /** Each counter in turn turns to 0 at each tick of the exchange; the messages pass at 0, 10, 110, 120, 320, 330. */
    private static void differencesWrap(Checks c) {
        for (int tick = 0; tick <= 331; tick++) {
            for (int node = 0; node <= 1; node++) {
                RangingNet net = new RangingNet();
                int offset = (WRAP - tick) % WRAP;
                net.addNode(0, 0, 0, node == 0 ? offset : 0, 0);
                net.addNode(10, 0, 0, node == 1 ? offset : 0, 0);
                net.exchange(0, 1, 100, 200);
                for (int method = 0; method <= 2; method++) {
                    int m = method;
                    c.due("range, 0 at " + tick, 10, () -> net.range(0, m));
                    c.due("worst error, 0 at " + tick, 0, () -> net.worstError(m));
                }
                c.due("relative drift, 0 at " + tick, 0.0, () -> net.relativeDrift(0));
            }
        }
    }

    private static void fortyExchanges(Checks c) {
        c.due("the fortieth", 39, () -> Nets.exchanges(39).exchange(0, 1, 0, 0));
        c.refused("one more", Checks.STATE, () -> Nets.exchanges(40), net -> net.exchange(0, 1, 0, 0));
        c.look("exchanges() of 40", 40, () -> Nets.exchanges(40), RangingNet::exchanges);
        RangingNet net = Nets.exchanges(40);
        net.undo();
        c.due("the fortieth after an undo", 39, () -> net.exchange(1, 0, 0, 0));
        c.due("still no more", Checks.STATE, () -> net.exchange(1, 0, 0, 0));
        net.plan(0, 0, 1, 0, 0);
        c.due("no more by a plan", 0, () -> net.run(5000));
        c.due("still 40", 40, net::exchanges);
    }

    private static void numberedAsCarriedOut(Checks c) {
        RangingNet net = Nets.nodes(3);
        net.plan(500, 1, 2, 0, 0);
        net.plan(400, 2, 0, 0, 0);
        c.due("the first", 0, () -> net.exchange(0, 1, 0, 0));
        net.run(500);
        c.due("the last", 3, () -> net.exchange(2, 1, 0, 0));
        int[] initiators = {0, 2, 1, 2};
        int[] responders = {1, 0, 2, 1};
        for (int i = 0; i < 4; i++) {
            int exchange = i;
            c.due("initiator of " + i, initiators[i], () -> net.party(exchange, 0));
            c.due("responder of " + i, responders[i], () -> net.party(exchange, 1));
        }
    }

    private static void timeAfterAnExchange(Checks c) {
        c.due("of an exchange that takes no time", 0, () -> {
            RangingNet net = Nets.oneSpot();
            net.exchange(0, 1, 0, 0);
            return net.now();
        });
        c.due("of the longest exchange", 800000 + 3 * 3228, () -> {
            RangingNet net = new RangingNet();
            net.addNode(-1000, -1000, 100, 0, 200);
            net.addNode(1000, 1000, -100, 0, 200);
            net.exchange(0, 1, 400000, 400000);
            return net.now();
        });
        c.due("of the longest exchanges from the latest time", 900000000L + 40 * (800000 + 3 * 3228), () -> {
            RangingNet net = new RangingNet();
            net.addNode(-1000, -1000, 100, 0, 200);
            net.addNode(1000, 1000, -100, 0, 200);
            net.run(900000000);
            for (int i = 0; i < 40; i++) {
                net.exchange(0, 1, 400000, 400000);
            }
            return net.now();
        });
    }

    // ---- ranges

    /** On one spot round a and reply b are the ticks of both clocks in the first reply time. */
    private static void singleSided(Checks c) {
        int[] slow = {0, -1, -1, -2, -2, -3};
        int[] fast = {0, 0, 1, 1, 2, 2};
        for (int k = 0; k <= 5; k++) {
            int reply = 10000 * k;
            c.due("floor(-" + k + " / 2)", slow[k], () -> rangeAfter(Nets.clocks(-100, 0), reply, 777, 0));
            c.due("floor(" + k + " / 2)", fast[k], () -> rangeAfter(Nets.clocks(100, 0), reply, 777, 0));
        }
        c.due("a slow responder", 1, () -> rangeAfter(Nets.clocks(0, -100), 20000, 0, 0));
    }

    /** On one spot the sum is what a's clock gains in the first reply time less what it gains in the second. */
    private static void symmetric(Checks c) {
        int[] down = {0, -1, -1, -1, -1, -2, -2, -2, -2, -3};
        int[] up = {0, 0, 0, 0, 1, 1, 1, 1, 2, 2};
        for (int k = 0; k <= 9; k++) {
            int reply = 10000 * k;
            c.due("floor(-" + k + " / 4)", down[k], () -> rangeAfter(Nets.clocks(-100, 0), reply, 0, 1));
            c.due("floor(-" + k + " / 4)", down[k], () -> rangeAfter(Nets.clocks(100, 0), 0, reply, 1));
            c.due("floor(" + k + " / 4)", up[k], () -> rangeAfter(Nets.clocks(-100, 0), 0, reply, 1));
            c.due("floor(" + k + " / 4)", up[k], () -> rangeAfter(Nets.clocks(100, 0), reply, 0, 1));
        }
    }

    private static void asymmetric(Checks c) {
        c.due("-1 / 20000", -1, () -> rangeAfter(Nets.clocks(-100, 100), 5000, 5000, 2));
        c.due("0 / 9999", 0, () -> rangeAfter(Nets.clocks(-100, 100), 5000, 0, 2));
        c.due("1 / 20000", 0, () -> rangeAfter(Nets.clocks(100, -100), 5000, 5000, 2));
        c.due("25003 / 20003", 1, () -> {
            RangingNet net = Nets.clocks(-100, 100);
            net.move(1, 1, 0);
            return rangeAfter(net, 5000, 5000, 2);
        });
        c.due("with one reply time of 0", 2828, () -> {
            RangingNet net = Nets.clocks(0, 0);
            net.move(0, -1000, -1000);
            net.move(1, 1000, 1000);
            return rangeAfter(net, 400000, 0, 2);
        });
        c.due("with the greatest products", 2828, () -> {
            RangingNet net = Nets.clocks(0, 0);
            net.move(0, -1000, -1000);
            net.move(1, 1000, 1000);
            return rangeAfter(net, 400000, 400000, 2);
        });
    }

    private static void divisorZero(Checks c) {
        c.due("divisor 0", 0, () -> rangeAfter(Nets.oneSpot(), 0, 0, 2));
        c.due("divisor 0 of drifting clocks", 0, () -> rangeAfter(Nets.clocks(100, -100), 0, 0, 2));
        c.due("divisor 2", 0, () -> rangeAfter(Nets.oneSpot(), 1, 0, 2));
        c.due("divisor 4", 1, () -> {
            RangingNet net = Nets.oneSpot();
            net.move(1, 0, 1);
            return rangeAfter(net, 0, 0, 2);
        });
        RangingNet net = Nets.oneSpot();
        net.exchange(0, 1, 0, 0);
        net.assume(0, 3);
        net.assume(1, 4);
        c.due("0 minus the assumed delays", -7, () -> net.range(0, 2));
    }

    private static void rangesRoundedDown(Checks c) {
        int[] reply2 = {0, 0, 5000};
        int[] above = {1, 1, 2};
        for (int method = 0; method <= 2; method++) {
            int m = method;
            c.due("just below 0 by method " + m, -1, () -> rangeAfter(Nets.clocks(-100, 100), 5000, reply2[m], m));
            c.due("3 / 2, 7 / 4 or 45015 / 20007 by method " + m, above[m], () -> {
                RangingNet net = Nets.clocks(-100, 100);
                net.move(1, 0, 2);
                return rangeAfter(net, 5000, reply2[m], m);
            });
        }
    }

    private static void minusAssumedDelays(Checks c) {
        int[][] due = {{0, 0, 10}, {1, 0, 9}, {0, 1, 9}, {10, 0, 0}, {4, 7, -1}, {1000, 1000, -1990},
            {-1000, -1000, 2010}, {1000, -1000, 10}};
        for (int[] each : due) {
            RangingNet net = Nets.exchanges(2);
            net.assume(0, each[0]);
            net.assume(1, each[1]);
            for (int method = 0; method <= 2; method++) {
                int m = method;
                c.due("range", each[2], () -> net.range(1, m));
                c.due("latest range", each[2], () -> net.latestRange(1, 0, m));
            }
        }
    }

    private static void errorByDistanceNow(Checks c) {
        RangingNet net = Nets.exchanges(1);
        c.due("where they met", 0, () -> net.worstError(0));
        net.move(1, 11, 0);
        c.due("one unit farther", -1.0, () -> net.meanError(0));
        c.due("one unit farther", 1, () -> net.worstError(0));
        net.move(1, 9, 0);
        c.due("one unit nearer", 1.0, () -> net.meanError(0));
        net.assume(0, 1);
        c.due("one unit nearer and one assumed", 0, () -> net.worstError(0));
    }

    private static void latestWhicheverInitiated(Checks c) {
        Function<RangingNet, Object> fromFirst = net -> net.latestRange(0, 1, 0);
        Function<RangingNet, Object> fromSecond = net -> net.latestRange(1, 0, 0);
        for (int i = 0; i < 4; i++) {
            int directions = i;
            Supplier<RangingNet> twice = () -> {
                RangingNet net = Nets.nodes(3);
                net.exchange(directions & 1, 1 - (directions & 1), 0, 0);
                net.move(1, 25, 0);
                net.exchange(directions >> 1, 1 - (directions >> 1), 0, 0);
                net.exchange(2, directions & 1, 0, 0);
                return net;
            };
            c.look("the latest", 25, twice, fromFirst);
            c.look("the latest", 25, twice, fromSecond);
        }
    }

    private static int rangeAfter(RangingNet net, int reply1, int reply2, int method) {
        return net.range(net.exchange(0, 1, reply1, reply2), method);
    }
}
