import java.util.List;
import java.util.function.Function;
import java.util.function.Supplier;

/** The sentences of "Description" on plans, calibration, fixes, undo and exceptions. */
final class SimulationSentences {
    private SimulationSentences() {
    }

    static void tell(Sentences s) {
        s.description("Exchanges can be planned for true times.", SimulationSentences::planned);
        s.description("At most 20 can be waiting.", SimulationSentences::twentyWaiting);
        s.description("Running until a time carries out, as long as an exchange is waiting whose planned time is at"
                + " most this time", SimulationSentences::atMostThisTime);
        s.description("the waiting exchange with the earliest planned time", SimulationSentences::earliestFirst);
        s.description("(of equal ones the one that was planned first)", SimulationSentences::plannedFirst);
        s.description("it begins at its planned time, or at the present time if that is later.",
                SimulationSentences::beginsAtTheLater);
        s.description("If the record is full, it is dropped instead.", SimulationSentences::droppedWhenFull);
        s.description("At the end the present time becomes the time until which was run, if it is earlier than that.",
                SimulationSentences::timeAtTheEnd);

        s.description("Calibration of three different nodes a, b, c", SimulationSentences::threeDifferent);
        s.description("let s(i, k) be the raw range of the latest exchange between i and k by method 2",
                SimulationSentences::rawRangeByMethod2);
        s.description("minus the distance of i and k.", SimulationSentences::minusDistance);
        s.description("The assumed delay of a becomes (s(a, b) + s(a, c) - s(b, c)) / 2, rounded down",
                SimulationSentences::halvesRoundedDown);
        s.description("and those of b and c likewise, with the roles exchanged.",
                SimulationSentences::rolesExchanged);

        s.description("A fix of a node from three anchors i, j, k (nodes whose positions are known), by a method, uses"
                + " the latest ranges r of the node to them.", SimulationSentences::usesLatestRanges);
        s.description("With the positions of the anchors the two equations", SimulationSentences::positionsNow);
        s.description("determine X and Y as fractions", SimulationSentences::asFractions);
        s.description("if the determinant of the left sides is not 0.", SimulationSentences::determinantZero);
        s.description("Values of a fix are X and Y, rounded down.", SimulationSentences::fixRoundedDown);

        s.description("Each successful call of a method whose description says \"undoable\" saves the state from before"
                + " the call", SimulationSentences::undoableCalls);
        s.description("even if the call changes nothing", SimulationSentences::undoableWithoutChange);
        s.description("at most 4 states are saved", SimulationSentences::fourSaved);
        s.description("and the oldest is dropped first.", SimulationSentences::oldestDropped);
        s.description("The saved state contains everything.", SimulationSentences::everythingSaved);
        s.description("A call that throws an exception changes nothing.", SimulationSentences::throwingChangesNothing);
        s.description("If several exceptions apply, the one that is listed first is thrown.",
                Refusals::firstListed);
    }

    // ---- plans

    private static void planned(Checks c) {
        RangingNet net = Nets.nodes(2);
        c.due("the first true time", 1, () -> net.plan(0, 0, 1, 0, 0));
        c.due("the last true time", 2, () -> net.plan(900000000, 0, 1, 0, 0));
        c.due("nothing is carried out yet", 0, net::exchanges);
        c.due("nor does time pass", 0L, net::now);
        c.due("both are carried out", 2, () -> net.run(900000000));
        c.due("now", 900000030L, net::now);
    }

    private static void twentyWaiting(Checks c) {
        c.due("the twentieth", 20, () -> Nets.plans(19).plan(0, 0, 1, 0, 0));
        c.refused("one more", Checks.STATE, () -> Nets.plans(20), net -> net.plan(0, 0, 1, 0, 0));
        c.refused("one more with a full record", Checks.STATE, Nets::full, net -> net.plan(0, 0, 1, 0, 0));
        RangingNet net = Nets.plans(19);
        net.plan(2000, 0, 1, 0, 0);
        net.undo();
        c.due("the twentieth after an undo", 20, () -> net.plan(2000, 0, 1, 0, 0));
        net.run(1000);
        c.due("with one left of 20", 2, () -> net.plan(0, 1, 0, 0, 0));
    }

    private static void atMostThisTime(Checks c) {
        int[][] due = {{0, 0}, {999, 0}, {1000, 3}, {1001, 3}, {900000000, 3}};
        for (int[] each : due) {
            RangingNet net = Nets.plans(3);
            c.due("run until " + each[0], each[1], () -> net.run(each[0]));
            c.due("recorded", each[1], net::exchanges);
            c.due("next", each[1] == 0 ? 1000 : RangingNet.NONE, net::nextPlanned);
        }
        RangingNet net = Nets.nodes(2);
        net.plan(0, 0, 1, 0, 0);
        c.due("planned for 0, run until 0", 1, () -> net.run(0));
        net.plan(900000000, 0, 1, 0, 0);
        c.due("run until just before the last time", 0, () -> net.run(899999999));
        c.due("planned for the last time, run until then", 1, () -> net.run(900000000));
        // The first exchange ends at 1030: the planned time counts, not the time at which the second would begin.
        RangingNet late = Nets.plans(2);
        c.due("planned in time, but begun late", 2, () -> late.run(1000));
    }

    private static void earliestFirst(Checks c) {
        int[][] orders = {{0, 1, 2}, {0, 2, 1}, {1, 0, 2}, {1, 2, 0}, {2, 0, 1}, {2, 1, 0}};
        for (int[] order : orders) {
            RangingNet net = Nets.nodes(2);
            for (int rank : order) {
                net.plan(500 + rank, 0, 1, rank, 0);
            }
            c.due("the earliest", 500, net::nextPlanned);
            c.due("all", 3, () -> net.run(600));
            dueReplies(c, net, 0, 1, 2);
        }
        RangingNet net = Nets.nodes(2);
        net.plan(900000000, 0, 1, 0, 0);
        net.plan(700, 0, 1, 2, 0);
        net.plan(600, 0, 1, 1, 0);
        c.due("the earliest alone", 1, () -> net.run(699));
        net.plan(0, 0, 1, 3, 0);
        c.due("a planned time in the past", 2, () -> net.run(900));
        dueReplies(c, net, 1, 3, 2);
        c.due("the latest is left", 900000000, net::nextPlanned);
    }

    private static void plannedFirst(Checks c) {
        RangingNet net = Nets.nodes(2);
        for (int i = 0; i < 20; i++) {
            net.plan(1000, 0, 1, i, 0);
        }
        c.due("twenty of one time", 20, () -> net.run(1000));
        dueReplies(c, net, 0, 1, 2, 3, 4, 5, 6, 7, 8, 9, 10, 11, 12, 13, 14, 15, 16, 17, 18, 19);

        RangingNet mixed = Nets.nodes(2);
        int[] times = {1000, 1001, 999, 1000, 1001, 999, 1000};
        int[] ranks = {2, 5, 0, 3, 6, 1, 4};
        for (int i = 0; i < times.length; i++) {
            mixed.plan(times[i], 0, 1, ranks[i], 0);
        }
        mixed.run(999);
        mixed.undo();
        c.due("equal ones among others", 7, () -> mixed.run(1001));
        dueReplies(c, mixed, 0, 1, 2, 3, 4, 5, 6);
    }

    private static void dueReplies(Checks c, RangingNet net, int... replies) {
        c.due("recorded", replies.length, net::exchanges);
        for (int i = 0; i < replies.length; i++) {
            int exchange = i;
            c.due("first reply time of exchange " + i, replies[i],
                    () -> net.stamp(exchange, 3) - net.stamp(exchange, 2));
        }
    }

    private static void beginsAtTheLater(Checks c) {
        int[][] due = {{0, 1000}, {999, 1000}, {1000, 1000}, {1001, 1001}, {5000, 5000}};
        for (int[] each : due) {
            RangingNet net = Nets.nodes(2);
            net.run(each[0]);
            net.plan(1000, 0, 1, 0, 0);
            net.run(6000);
            c.due("planned for 1000, present time " + each[0], each[1], () -> net.stamp(0, 1));
        }
        for (int[] each : due) {
            RangingNet net = Nets.nodes(2);
            net.plan(0, 0, 1, Math.max(0, each[0] - 30), 0);
            net.plan(1000, 0, 1, 0, 0);
            net.run(6000);
            c.due("planned for 1000, the one before ends at " + each[0], each[1], () -> net.stamp(1, 1));
        }
    }

    private static void droppedWhenFull(Checks c) {
        for (int recorded = 37; recorded <= 40; recorded++) {
            RangingNet net = Nets.exchanges(recorded);
            net.plan(2000, 0, 1, 1, 0);
            net.plan(3000, 0, 1, 3, 0);
            net.plan(2000, 0, 1, 2, 0);
            net.plan(9001, 0, 1, 4, 0);
            int room = 40 - recorded;
            c.due("carried out behind " + recorded, room, () -> net.run(9000));
            c.due("record", 40, net::exchanges);
            for (int i = 0; i < room; i++) {
                int exchange = recorded + i;
                c.due("the earliest ones", exchange - 40 + room + 1,
                        () -> net.stamp(exchange, 3) - net.stamp(exchange, 2));
            }
            c.due("dropped ones wait no more", 9001, net::nextPlanned);
            c.due("dropped ones take no time", 9000L, net::now);
            c.due("the last one is dropped", 0, () -> net.run(9001));
            c.due("none waits", RangingNet.NONE, net::nextPlanned);
            c.due("now", 9001L, net::now);
        }
        RangingNet past = Nets.exchanges(40);
        past.plan(5, 0, 1, 400000, 0);
        c.due("dropped in the past", 0, () -> past.run(6));
        c.due("none waits", RangingNet.NONE, past::nextPlanned);
        c.due("the present time stays", 1200L, past::now);
    }

    private static void timeAtTheEnd(Checks c) {
        int[][] due = {{0, 30}, {29, 30}, {30, 30}, {31, 31}, {900000000, 900000000}};
        for (int[] each : due) {
            RangingNet net = Nets.exchanges(1);
            net.run(each[0]);
            c.due("run until " + each[0], each[1], net::now);
        }
        int[][] behind = {{999, 999}, {1000, 1030}, {1029, 1030}, {1030, 1030}, {1031, 1031}};
        for (int[] each : behind) {
            RangingNet net = Nets.plans(1);
            net.run(each[0]);
            c.due("an exchange planned for 1000, run until " + each[0], each[1], net::now);
        }
    }

    // ---- calibration

    private static void threeDifferent(Checks c) {
        for (int i = 0; i < 27; i++) {
            int a = i / 9;
            int b = i / 3 % 3;
            int d = i % 3;
            String what = "calibrate(" + a + ", " + b + ", " + d + ")";
            if (a == b || a == d || b == d) {
                c.refused(what, Checks.ARGUMENT, Nets::triangle, net -> net.calibrate(a, b, d));
            } else {
                c.taken(what, Nets::triangle, net -> net.calibrate(a, b, d));
            }
        }
    }

    private static void rawRangeByMethod2(Checks c) {
        RangingNet net = new RangingNet();
        net.addNode(0, 0, 100, 0, 0);
        net.addNode(300, 400, -100, 0, 0);
        net.addNode(-300, 400, -100, 0, 0);
        net.exchange(0, 1, 400000, 400000);
        net.exchange(2, 0, 400000, 400000);
        net.exchange(1, 2, 400000, 400000);
        c.due("by method 0 the range is wrong", 40, () -> net.range(0, 0) - net.distance(0, 1));
        c.due("by method 2 the excess of 0 and 1", 0, () -> net.range(0, 2) - net.distance(0, 1));
        c.due("by method 2 the excess of 0 and 2", 0, () -> net.range(1, 2) - net.distance(0, 2));
        c.due("by method 2 the excess of 1 and 2", 0, () -> net.range(2, 2) - net.distance(1, 2));
        net.assume(0, 1000);
        net.assume(1, -1000);
        c.due("raw ranges: what was assumed plays no part", 0, () -> net.calibrate(0, 1, 2));
        for (int node = 0; node < 3; node++) {
            int n = node;
            c.due("assumed of " + n, 0, () -> net.assumed(n));
        }

        RangingNet again = Nets.triangle();
        again.exchange(0, 1, 3, 3);
        again.move(1, 16, 0);
        again.exchange(1, 0, 3, 3);
        again.move(1, 10, 0);
        c.due("the latest exchange, not an earlier one", 3, () -> again.calibrate(0, 1, 2));
        c.due("assumed of 0", 3, () -> again.assumed(0));
    }

    private static void minusDistance(Checks c) {
        RangingNet net = Nets.triangle();
        c.due("where they met", 0, () -> net.calibrate(0, 1, 2));
        net.move(0, 0, 1);
        c.due("the distance now", -1, () -> net.calibrate(0, 1, 2));
        RangingNet far = Nets.nodes(0);
        for (int i = 0; i < 3; i++) {
            far.addNode(0, 0, 0, 0, 0);
        }
        far.exchange(0, 1, 0, 0);
        far.exchange(1, 2, 0, 0);
        far.exchange(2, 0, 0, 0);
        far.move(0, 1000, 1000);
        far.move(1, -1000, -1000);
        far.move(2, -1000, -1000);
        c.due("beyond what may be assumed by hand", -2828, () -> far.calibrate(0, 1, 2));
        c.due("it is assumed all the same", -2828, () -> far.assume(0, -1000));
    }

    /** With node 0 at (0, k) s(0, 2) is k, and the other two are 0. */
    private static void halvesRoundedDown(Checks c) {
        int[] halves = {-2, -2, -1, -1, 0, 0, 1, 1, 2};
        for (int k = -4; k <= 4; k++) {
            RangingNet net = Nets.triangle();
            net.move(0, 0, k);
            int half = halves[k + 4];
            int minusHalf = halves[4 - k];
            c.due("sum for s = " + k, half + minusHalf + half, () -> net.calibrate(0, 1, 2));
            c.due("a, " + k + " / 2", half, () -> net.assumed(0));
            c.due("b, -" + k + " / 2", minusHalf, () -> net.assumed(1));
            c.due("c, " + k + " / 2", half, () -> net.assumed(2));
        }
    }

    private static void rolesExchanged(Checks c) {
        int[][] orders = {{0, 1, 2}, {0, 2, 1}, {1, 0, 2}, {1, 2, 0}, {2, 0, 1}, {2, 1, 0}};
        int[][] halves = {{0, -1, 0}, {-2, 1, -2}, {15, 30, 45}};
        for (int[] order : orders) {
            RangingNet near = Nets.triangle();
            near.move(0, 0, 1);
            RangingNet far = Nets.triangle();
            far.move(0, 0, -3);
            RangingNet delayed = new RangingNet();
            delayed.addNode(0, 0, 0, 0, 15);
            delayed.addNode(600, 0, 0, 0, 30);
            delayed.addNode(0, 800, 0, 0, 45);
            delayed.exchange(0, 1, 5, 6);
            delayed.exchange(0, 2, 5, 6);
            delayed.exchange(1, 2, 5, 6);
            RangingNet[] nets = {near, far, delayed};
            for (int i = 0; i < nets.length; i++) {
                RangingNet net = nets[i];
                int[] due = halves[i];
                c.due("sum", due[0] + due[1] + due[2], () -> net.calibrate(order[0], order[1], order[2]));
                for (int node = 0; node < 3; node++) {
                    int n = node;
                    c.due("assumed of " + n, due[n], () -> net.assumed(n));
                }
            }
        }
    }

    // ---- fixes

    private static void usesLatestRanges(Checks c) {
        RangingNet net = Nets.anchored(30, 40);
        net.move(3, 60, 80);
        net.exchange(0, 3, 1, 1);
        net.exchange(3, 1, 1, 1);
        net.exchange(2, 3, 1, 1);
        net.exchange(0, 1, 9, 9);
        dueFix(c, "the latest ranges", net, 2, 60, 80);
        net.assume(1, 10);
        // r1 is 89 - 10.
        c.due("minus the assumed delays", (10000 - 79 * 79 + 10000) / 200, () -> net.fix(3, 12, 2, 0));

        RangingNet drifting = new RangingNet();
        drifting.addNode(0, 0, -100, 0, 0);
        drifting.addNode(100, 0, -100, 0, 0);
        drifting.addNode(0, 100, -100, 0, 0);
        drifting.addNode(30, 40, 100, 0, 0);
        for (int anchor = 0; anchor < 3; anchor++) {
            drifting.exchange(3, anchor, 100000 * (anchor + 1), 300000);
        }
        for (int method = 0; method <= 2; method++) {
            int m = method;
            int r0 = drifting.latestRange(3, 0, m);
            int r1 = drifting.latestRange(3, 1, m);
            int r2 = drifting.latestRange(3, 2, m);
            dueFix(c, "by method " + m, drifting, m, Math.floorDiv(r0 * r0 - r1 * r1 + 10000, 200),
                    Math.floorDiv(r0 * r0 - r2 * r2 + 10000, 200));
        }
        c.due("method 0 is not method 1", true, () -> drifting.fix(3, 12, 0, 0) != drifting.fix(3, 12, 1, 0));
        c.due("method 1 is not method 2", true, () -> drifting.fix(3, 12, 1, 0) != drifting.fix(3, 12, 2, 0));
    }

    private static void dueFix(Checks c, String what, RangingNet net, int method, int x, int y) {
        for (int anchors : new int[] {12, 21, 102, 120, 201, 210}) {
            c.due(what + ", X from " + anchors, x, () -> net.fix(3, anchors, method, 0));
            c.due(what + ", Y from " + anchors, y, () -> net.fix(3, anchors, method, 1));
        }
    }

    private static void positionsNow(Checks c) {
        RangingNet net = Nets.anchored(30, 40);
        net.move(3, 900, -900);
        dueFix(c, "where the node stands plays no part", net, 0, 30, 40);
        for (int anchor = 0; anchor < 3; anchor++) {
            net.move(anchor, anchor == 1 ? 100 - 1000 : -1000, anchor == 2 ? 100 + 900 : 900);
        }
        dueFix(c, "the anchors' positions now", net, 0, 30 - 1000, 40 + 900);
    }

    /** X is 61 / 2 and Y is 801 / 20: none of the steps before the end may be rounded. */
    private static void asFractions(Checks c) {
        dueFix(c, "fractions", Nets.anchored(30, 40), 0, 30, 40);
        dueFix(c, "whole numbers", Nets.anchored(0, 0), 0, 0, 0);
        RangingNet aslant = new RangingNet();
        aslant.addNode(0, 0, 0, 0, 0);
        aslant.addNode(3, 1, 0, 0, 0);
        aslant.addNode(1, 2, 0, 0, 0);
        aslant.addNode(0, 0, 0, 0, 0);
        aslant.exchange(3, 0, 0, 0);
        aslant.exchange(3, 1, 0, 0);
        aslant.exchange(3, 2, 0, 0);
        // r is 0, 3, 2: 6 X + 2 Y = 1 and 2 X + 4 Y = 1, so that X is 1 / 10 and Y is 1 / 5.
        dueFix(c, "small fractions", aslant, 0, 0, 0);
        aslant.assume(1, -1);
        // r is 0, 4, 2: 6 X + 2 Y = -6 and 2 X + 4 Y = 1, so that X is -13 / 10 and Y is 9 / 10.
        dueFix(c, "fractions on both sides of 0", aslant, 0, -2, 0);
        aslant.assume(1, 0);
        aslant.assume(2, -1);
        // r is 0, 3, 3: 6 X + 2 Y = 1 and 2 X + 4 Y = -4, so that X is 3 / 5 and Y is -13 / 10.
        dueFix(c, "fractions on both sides of 0", aslant, 0, 0, -2);
    }

    private static void determinantZero(Checks c) {
        int[][] inLine = {{0, 0, 1, 0, 2, 0}, {0, 0, 0, 1, 0, -1}, {-1000, -1000, 0, 0, 1000, 1000},
            {5, 5, 5, 5, 7, 9}, {7, 9, 5, 5, 5, 5}, {5, 5, 7, 9, 5, 5}, {1, 1, 1, 1, 1, 1}, {0, 0, 6, 4, -9, -6}};
        int[][] notInLine = {{0, 0, 1, 0, 0, 1}, {0, 0, 0, 1, 1, 0}, {0, 0, 1000, 999, 999, 998},
            {-1000, -1000, 1000, 1000, 0, 1}};
        for (int[] at : inLine) {
            for (int axis = 0; axis <= 1; axis++) {
                int coordinate = axis;
                c.refused("anchors in one line", Checks.ARITHMETIC, () -> anchorsAt(at),
                        net -> net.fix(3, 12, 0, coordinate));
            }
        }
        for (int[] at : notInLine) {
            for (int axis = 0; axis <= 1; axis++) {
                int coordinate = axis;
                c.taken("anchors not in one line", () -> anchorsAt(at), net -> net.fix(3, 12, 0, coordinate));
            }
        }
    }

    private static RangingNet anchorsAt(int[] at) {
        RangingNet net = Nets.anchored(0, 0);
        for (int anchor = 0; anchor < 3; anchor++) {
            net.move(anchor, at[2 * anchor], at[2 * anchor + 1]);
        }
        return net;
    }

    private static void fixRoundedDown(Checks c) {
        dueFix(c, "61 / 2 and 801 / 20", Nets.anchored(30, 40), 0, 30, 40);
        // r is 50, 136, 143: X is -5996 / 200 and Y is -7949 / 200.
        dueFix(c, "-1499 / 50 and -7949 / 200", Nets.anchored(-30, -40), 0, -30, -40);
        dueFix(c, "-100, a whole number", Nets.anchored(-100, 0), 0, -100, 0);
    }

    // ---- undo

    private static void undoableCalls(Checks c) {
        c.undoable("addNode", RangingNet::new, net -> net.addNode(1, 2, 3, 4, 5));
        c.undoable("move", Nets::triangle, net -> net.move(2, 5, 5));
        c.undoable("assume", Nets::triangle, net -> net.assume(1, 5));
        c.undoable("exchange", () -> Nets.nodes(2), net -> net.exchange(0, 1, 0, 0));
        c.undoable("plan", () -> Nets.nodes(2), net -> net.plan(0, 0, 1, 0, 0));
        c.undoable("run", () -> Nets.plans(1), net -> net.run(1000));
        c.undoable("calibrate", Nets::triangle, net -> net.calibrate(0, 1, 2));
        Supplier<RangingNet> met = () -> Nets.anchored(30, 40);
        c.changesNothing("assumed", met, net -> net.assumed(0));
        c.changesNothing("distance", met, net -> net.distance(0, 1));
        c.changesNothing("counter", met, net -> net.counter(0, 999));
        c.changesNothing("nextPlanned", met, RangingNet::nextPlanned);
        c.changesNothing("nextPlanned", () -> Nets.plans(2), RangingNet::nextPlanned);
        c.changesNothing("now", met, RangingNet::now);
        c.changesNothing("exchanges", met, RangingNet::exchanges);
        c.changesNothing("stamp", met, net -> net.stamp(0, 1));
        c.changesNothing("party", met, net -> net.party(0, 1));
        c.changesNothing("range", met, net -> net.range(0, 1));
        c.changesNothing("latestRange", met, net -> net.latestRange(0, 3, 1));
        c.changesNothing("worstError", met, net -> net.worstError(1));
        c.changesNothing("meanError", met, net -> net.meanError(1));
        c.changesNothing("relativeDrift", met, net -> net.relativeDrift(1));
        c.changesNothing("fix", met, net -> net.fix(3, 12, 1, 0));
        c.changesNothing("digest", met, RangingNet::digest);
    }

    private static void undoableWithoutChange(Checks c) {
        c.undoable("move to where it stands", () -> Nets.nodes(2), net -> net.move(1, 10, 0));
        c.undoable("assume what is assumed", () -> Nets.nodes(2), net -> net.assume(1, 0));
        c.undoable("run until now", () -> Nets.nodes(2), net -> net.run(0));
        c.undoable("run into the past", () -> Nets.exchanges(1), net -> net.run(29));
        c.undoable("run on a new object", RangingNet::new, net -> net.run(0));
        c.undoable("calibrate what is calibrated", Nets::triangle, net -> net.calibrate(0, 1, 2));
        RangingNet net = Nets.nodes(2);
        long before = net.digest();
        net.move(1, 10, 0);
        c.due("one more is saved, nothing else is changed", before + 1, net::digest);
        net.run(0);
        c.due("one more is saved, nothing else is changed", before + 2, net::digest);
        net.assume(1, 0);
        c.due("no more than four are saved", before + 2, net::digest);
        c.due("undo", 3, net::undo);
    }

    private static void fourSaved(Checks c) {
        for (int calls = 0; calls <= 9; calls++) {
            RangingNet net = new RangingNet();
            for (int i = 0; i < calls; i++) {
                net.run(i + 1);
            }
            int saved = Math.min(calls, 4);
            for (int left = saved - 1; left >= 0; left--) {
                int remaining = left;
                c.due("undo after " + calls + " calls", remaining, net::undo);
                c.due("time after " + calls + " calls", (long) calls - saved + remaining, net::now);
            }
            c.due("none is left after " + calls + " calls", Checks.STATE, net::undo);
            c.due("time after " + calls + " calls", (long) calls - saved, net::now);
        }
    }

    private static void oldestDropped(Checks c) {
        RangingNet net = new RangingNet();
        for (int time = 1; time <= 6; time++) {
            net.run(time);
        }
        c.due("undo", 3, net::undo);
        c.due("undo", 2, net::undo);
        c.due("the newest two are undone", 4L, net::now);
        for (int time = 10; time <= 12; time++) {
            net.run(time);
        }
        long[] due = {11, 10, 4, 3};
        for (int i = 0; i < 4; i++) {
            int left = 3 - i;
            c.due("undo", left, net::undo);
            c.due("the newest first, the one before the oldest was dropped", due[i], net::now);
        }
        c.due("what was dropped is not back", Checks.STATE, net::undo);
        c.due("time stays", 3L, net::now);
        net.run(20);
        c.due("saved anew", 0, net::undo);
        c.due("time", 3L, net::now);
    }

    private static void everythingSaved(Checks c) {
        Supplier<RangingNet> lastNodeMissing = () -> {
            RangingNet net = Nets.nodes(5);
            for (int i = 0; i < 30; i++) {
                net.exchange(i % 4, 4, 7, i);
            }
            for (int i = 0; i < 20; i++) {
                net.plan(5000 - i % 3, 4, i % 4, i, 7);
            }
            net.assume(2, -7);
            return net;
        };
        Function<RangingNet, Object> run = net -> net.run(900000000);
        c.undoable("a run that drops plans", lastNodeMissing, run);
        c.undoable("a run of the full object", Nets::full, run);
        c.undoable("a run of some plans", lastNodeMissing, net -> net.run(4999));
        c.undoable("a new node", lastNodeMissing, net -> net.addNode(1000, -1000, 100, 1048575, 200));
        c.undoable("an exchange", lastNodeMissing, net -> net.exchange(1, 2, 400000, 400000));
        c.undoable("a move", Nets::full, net -> net.move(5, -1000, 1000));
        c.undoable("an assumed delay", Nets::full, net -> net.assume(5, 1000));
        RangingNet twice = Nets.plans(3);
        twice.run(1000);
        long first = twice.digest();
        twice.undo();
        twice.run(1000);
        c.due("the same again after an undo", first, twice::digest);
    }

    // ---- exceptions

    private static void throwingChangesNothing(Checks c) {
        for (Supplier<RangingNet> recipe : List.<Supplier<RangingNet>>of(RangingNet::new, Nets::full)) {
            c.refused("addNode", Checks.ARGUMENT, recipe, net -> net.addNode(1001, 0, 0, 0, 0));
            c.refused("move", Checks.NO_SUCH, recipe, net -> net.move(6, 0, 0));
            c.refused("assume", Checks.NO_SUCH, recipe, net -> net.assume(6, 0));
            c.refused("assumed", Checks.NO_SUCH, recipe, net -> net.assumed(6));
            c.refused("distance", Checks.NO_SUCH, recipe, net -> net.distance(0, 6));
            c.refused("counter", Checks.NO_SUCH, recipe, net -> net.counter(6, 0));
            c.refused("exchange", Checks.NO_SUCH, recipe, net -> net.exchange(0, 6, 0, 0));
            c.refused("plan", Checks.NO_SUCH, recipe, net -> net.plan(0, 0, 6, 0, 0));
            c.refused("run", Checks.ARGUMENT, recipe, net -> net.run(-1));
            c.refused("stamp", Checks.NO_SUCH, recipe, net -> net.stamp(40, 1));
            c.refused("party", Checks.NO_SUCH, recipe, net -> net.party(40, 0));
            c.refused("range", Checks.NO_SUCH, recipe, net -> net.range(40, 0));
            c.refused("latestRange", Checks.NO_SUCH, recipe, net -> net.latestRange(0, 6, 0));
            c.refused("worstError", Checks.ARGUMENT, recipe, net -> net.worstError(3));
            c.refused("meanError", Checks.ARGUMENT, recipe, net -> net.meanError(3));
            c.refused("relativeDrift", Checks.NO_SUCH, recipe, net -> net.relativeDrift(40));
            c.refused("calibrate", Checks.NO_SUCH, recipe, net -> net.calibrate(0, 1, 6));
            c.refused("fix", Checks.NO_SUCH, recipe, net -> net.fix(6, 123, 0, 0));
        }
        c.refused("undo", Checks.STATE, RangingNet::new, RangingNet::undo);
        c.refused("addNode", Checks.STATE, Nets::full, net -> net.addNode(0, 0, 0, 0, 0));
        c.refused("exchange", Checks.STATE, Nets::full, net -> net.exchange(0, 1, 0, 0));
        c.refused("plan", Checks.STATE, Nets::full, net -> net.plan(0, 0, 1, 0, 0));
        c.refused("calibrate", Checks.STATE, Nets::full, net -> net.calibrate(0, 1, 2));
        c.refused("fix", Checks.STATE, Nets::full, net -> net.fix(0, 123, 0, 0));
        c.refused("fix", Checks.ARITHMETIC, Nets::full, net -> net.fix(5, 123, 0, 0));
    }
}
