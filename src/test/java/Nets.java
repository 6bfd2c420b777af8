/** The objects that tests begin with, and the digest of a state that is written out. */
final class Nets {
    private Nets() {
    }

    /** Node i stands at (10 * i, 0), with an exact clock from 0 and without antenna delay. */
    static RangingNet nodes(int count) {
        RangingNet net = new RangingNet();
        for (int i = 0; i < count; i++) {
            net.addNode(10 * i, 0, 0, 0, 0);
        }
        return net;
    }

    /** Two nodes, and exchanges of 30 ticks each. */
    static RangingNet exchanges(int count) {
        RangingNet net = nodes(2);
        for (int i = 0; i < count; i++) {
            net.exchange(0, 1, 0, 0);
        }
        return net;
    }

    /** Two nodes, and plans for the time 1000 of 30 ticks each. */
    static RangingNet plans(int count) {
        RangingNet net = nodes(2);
        for (int i = 0; i < count; i++) {
            net.plan(1000, 0, 1, 0, 0);
        }
        return net;
    }

    /** As many of all as there may be. */
    static RangingNet full() {
        RangingNet net = nodes(6);
        for (int i = 0; i < 40; i++) {
            net.exchange(i % 5, 5, i, 0);
        }
        for (int i = 0; i < 20; i++) {
            net.plan(1000 - i, 5, i % 5, 0, i);
        }
        return net;
    }

    /** Two nodes on one spot, with exact clocks from 0 and without antenna delays. */
    static RangingNet oneSpot() {
        return clocks(0, 0);
    }

    /** Two nodes on one spot with drifting clocks from 0 and without antenna delays. */
    static RangingNet clocks(int drift0, int drift1) {
        RangingNet net = new RangingNet();
        net.addNode(0, 0, drift0, 0, 0);
        net.addNode(0, 0, drift1, 0, 0);
        return net;
    }

    /** Three nodes that have met each other, and a fourth at (500, 500) that has met nobody. */
    static RangingNet triangle() {
        RangingNet net = new RangingNet();
        net.addNode(0, 0, 0, 0, 0);
        net.addNode(10, 0, 0, 0, 0);
        net.addNode(0, 10, 0, 0, 0);
        net.addNode(500, 500, 0, 0, 0);
        net.exchange(1, 0, 3, 3);
        net.exchange(0, 2, 3, 3);
        net.exchange(2, 1, 3, 3);
        return net;
    }

    /** Anchors 0 at (0, 0), 1 at (100, 0) and 2 at (0, 100); node 3 at (x, y) has met all of them. */
    static RangingNet anchored(int x, int y) {
        RangingNet net = new RangingNet();
        net.addNode(0, 0, 0, 0, 0);
        net.addNode(100, 0, 0, 0, 0);
        net.addNode(0, 100, 0, 0, 0);
        net.addNode(x, y, 0, 0, 0);
        net.exchange(3, 0, 1, 1);
        net.exchange(1, 3, 1, 1);
        net.exchange(3, 2, 1, 1);
        return net;
    }

    static long hash(long... values) {
        long hash = 2797;
        for (long value : values) {
            hash = 31 * hash + value;
        }
        return hash;
    }
}
