/** The sentences of the promises 23 and 24: undo and digest. */
final class StatePromises {
    private StatePromises() {
    }

    static void tell(Sentences s) {
        s.promise(23, "Restores the most recently saved state and removes it from the saved states.",
                StatePromises::undoRestores);
        s.promise(23, "Returns the number of saved states that remain.", StatePromises::undoReturns);
        s.promise(23, "Throws `IllegalStateException` if there is no saved state", StatePromises::nothingSaved);

        s.promise(24, "Returns a hash of the state.", StatePromises::hashOfTheState);
        s.promise(24, "Start with h = 2797 and, for each of the following values v, set h = 31 * h + v: the present"
                + " time; the number of nodes and, for each node, its x, y, drift, offset, antenna delay, assumed"
                + " delay, and its counter at the present time; the number of recorded exchanges and, for each of"
                + " them, its initiator, its responder, p1 to p6, and its ranges by the methods 0, 1 and 2; the number"
                + " of waiting exchanges and, in the order in which they would be carried out, the planned time, the"
                + " initiator, the responder and both reply times of each; the number of saved states.",
                StatePromises::allValues);
        s.promise(24, "Returns the hash, with the overflow of long arithmetic ignored.", StatePromises::overflow);
    }

    // ---- promise 23

    private static void undoRestores(Checks c) {
        RangingNet net = Nets.nodes(1);
        for (int delay = 1; delay <= 3; delay++) {
            net.assume(0, delay);
        }
        net.undo();
        c.due("the most recent one", 2, () -> net.assumed(0));
        net.assume(0, 50);
        net.undo();
        c.due("the one saved since", 2, () -> net.assumed(0));
        net.undo();
        net.undo();
        c.due("one after the other", 0, () -> net.assumed(0));
        net.undo();
        c.due("the object without a node", Checks.NO_SUCH, () -> net.assumed(0));
        c.due("as new", new RangingNet().digest(), net::digest);
    }

    private static void undoReturns(Checks c) {
        for (int calls = 1; calls <= 6; calls++) {
            RangingNet net = Nets.nodes(calls);
            for (int left = Math.min(calls, 4) - 1; left >= 0; left--) {
                int due = left;
                c.due("of " + calls + " calls", due, net::undo);
            }
        }
        RangingNet net = Nets.nodes(1);
        c.due("the last one", 0, net::undo);
        net.addNode(0, 0, 0, 0, 0);
        net.addNode(0, 0, 0, 0, 0);
        c.due("one of two", 1, net::undo);
        net.addNode(0, 0, 0, 0, 0);
        c.due("the other was kept", 1, net::undo);
    }

    private static void nothingSaved(Checks c) {
        c.refused("of a new object", Checks.STATE, RangingNet::new, RangingNet::undo);
        c.taken("one is saved", () -> Nets.nodes(1), RangingNet::undo);
        c.refused("the only one was taken", Checks.STATE, () -> {
            RangingNet net = Nets.nodes(1);
            net.undo();
            return net;
        }, RangingNet::undo);
        c.refused("all four were taken", Checks.STATE, () -> {
            RangingNet net = Nets.full();
            for (int i = 0; i < 4; i++) {
                net.undo();
            }
            return net;
        }, RangingNet::undo);
        c.refused("after refused calls only", Checks.STATE, () -> {
            RangingNet net = new RangingNet();
            for (int i = 0; i < 3; i++) {
                try {
                    net.addNode(0, 0, 0, 0, 201);
                } catch (IllegalArgumentException refused) {
                    continue;
                }
            }
            return net;
        }, RangingNet::undo);
    }

    // ---- promise 24

    private static void hashOfTheState(Checks c) {
        c.due("the same calls, the same hash", Nets.full().digest(), () -> Nets.full().digest());
        RangingNet net = Nets.triangle();
        c.due("twice", net.digest(), net::digest);
        net.undo();
        net.exchange(2, 1, 3, 3);
        c.due("undone and done again", Nets.triangle().digest(), net::digest);
    }

    private static void allValues(Checks c) {
        RangingNet net = new RangingNet();
        c.due("a new object", Nets.hash(0, 0, 0, 0, 0), net::digest);
        net.run(5);
        c.due("time and number of saved states", Nets.hash(5, 0, 0, 0, 1), net::digest);
        net.undo();
        net.addNode(3, -4, 100, 1048570, 9);
        c.due("one node", Nets.hash(0, 1, 3, -4, 100, 1048570, 9, 0, 1048570, 0, 0, 1), net::digest);
        net.run(20000);
        c.due("its counter now", Nets.hash(20000, 1, 3, -4, 100, 1048570, 9, 0, 19996, 0, 0, 2), net::digest);
        net.undo();
        net.addNode(33, 36, -100, 5, 20);
        net.assume(1, -8);
        net.plan(900, 1, 0, 7, 8);
        net.plan(800, 0, 1, 5, 6);
        net.plan(900, 0, 1, 3, 4);
        net.exchange(1, 0, 100, 200);
        // The way is 20 + 50 + 9 = 79: the messages go at 0, 179 and 458 and come at 79, 258 and 537.
        c.due("everything", Nets.hash(537,
                2, 3, -4, 100, 1048570, 9, 0, 531, 33, 36, -100, 5, 20, -8, 541,
                1, 1, 0, 5, 73, 173, 262, 462, 531, 86, 86, 86,
                3, 800, 0, 1, 5, 6, 900, 1, 0, 7, 8, 900, 0, 1, 3, 4,
                4), net::digest);
        RangingNet drifting = new RangingNet();
        drifting.addNode(0, 0, 100, 0, 0);
        drifting.addNode(300, 400, -100, 0, 0);
        drifting.exchange(0, 1, 400000, 400000);
        c.due("ranges in the order of the methods", Nets.hash(801500,
                2, 0, 0, 100, 0, 0, 0, 801580, 300, 400, -100, 0, 0, 0, 801419,
                1, 0, 1, 0, 499, 400459, 401040, 801080, 801419, 540, 500, 500,
                0, 3), drifting::digest);
    }

    private static void overflow(Checks c) {
        long[] values = new long[2 + 6 * 7 + 1 + 1 + 1];
        int at = 0;
        values[at++] = 0;
        values[at++] = 6;
        for (int node = 0; node < 6; node++) {
            long[] row = {1000, -1000, 100, 1048575, 200, 0, 1048575};
            for (long value : row) {
                values[at++] = value;
            }
        }
        values[at++] = 0;
        values[at++] = 0;
        values[at++] = 4;
        RangingNet net = new RangingNet();
        for (int node = 0; node < 6; node++) {
            net.addNode(1000, -1000, 100, 1048575, 200);
        }
        c.due("six nodes", Nets.hash(values), net::digest);
        c.due("the exact hash does not fit into a long", true, () -> Math.pow(31, values.length) > 0x1p63);
    }
}
