/** The five examples of the document, word for word. */
public final class ExamplesTest {
    private static final Checks CHECKS = new Checks();

    public static void main(String[] args) {
        counterThatWraps();
        driftingClocks();
        calibration();
        plannedExchanges();
        exceptions();
        CHECKS.finish("ExamplesTest");
    }

    private static void counterThatWraps() {
        RangingNet net = new RangingNet();
        CHECKS.due("1 addNode", 0, () -> net.addNode(0, 0, 0, 0, 0));
        CHECKS.due("1 addNode", 1, () -> net.addNode(300, 400, 0, 1048000, 0));
        CHECKS.due("1 exchange", 0, () -> net.exchange(0, 1, 1000, 2000));
        CHECKS.due("1 stamp", 1048500, () -> net.stamp(0, 2));
        CHECKS.due("1 stamp", 924, () -> net.stamp(0, 3));
        CHECKS.due("1 range", 500, () -> net.range(0, 0));
        CHECKS.due("1 range", 500, () -> net.range(0, 2));
        CHECKS.due("1 now", 4500L, net::now);
    }

    private static void driftingClocks() {
        RangingNet net = new RangingNet();
        CHECKS.due("2 addNode", 0, () -> net.addNode(0, 0, 100, 0, 0));
        CHECKS.due("2 addNode", 1, () -> net.addNode(300, 400, -100, 0, 0));
        CHECKS.due("2 exchange", 0, () -> net.exchange(0, 1, 400000, 400000));
        CHECKS.due("2 range", 540, () -> net.range(0, 0));
        CHECKS.due("2 range", 500, () -> net.range(0, 1));
        CHECKS.due("2 range", 500, () -> net.range(0, 2));
        CHECKS.due("2 relativeDrift", 199.77026419626398, () -> net.relativeDrift(0));
    }

    private static void calibration() {
        RangingNet net = new RangingNet();
        CHECKS.due("3 addNode", 0, () -> net.addNode(0, 0, 0, 0, 15));
        CHECKS.due("3 addNode", 1, () -> net.addNode(600, 0, 0, 0, 30));
        CHECKS.due("3 addNode", 2, () -> net.addNode(0, 800, 0, 0, 45));
        CHECKS.due("3 exchange", 0, () -> net.exchange(0, 1, 5, 6));
        CHECKS.due("3 exchange", 1, () -> net.exchange(0, 2, 5, 6));
        CHECKS.due("3 exchange", 2, () -> net.exchange(1, 2, 5, 6));
        CHECKS.due("3 calibrate", 90, () -> net.calibrate(0, 1, 2));
        CHECKS.due("3 assumed", 30, () -> net.assumed(1));
        CHECKS.due("3 worstError", 0, () -> net.worstError(2));
    }

    private static void plannedExchanges() {
        RangingNet net = new RangingNet();
        CHECKS.due("4 addNode", 0, () -> net.addNode(0, 0, 0, 0, 0));
        CHECKS.due("4 addNode", 1, () -> net.addNode(100, 0, 0, 0, 0));
        CHECKS.due("4 plan", 1, () -> net.plan(500, 0, 1, 10, 10));
        CHECKS.due("4 plan", 2, () -> net.plan(400, 1, 0, 200, 10));
        CHECKS.due("4 run", 2, () -> net.run(500));
        CHECKS.due("4 exchanges", 2, net::exchanges);
        CHECKS.due("4 now", 1230L, net::now);
    }

    private static void exceptions() {
        RangingNet net = new RangingNet();
        CHECKS.due("5 addNode", 0, () -> net.addNode(0, 0, 0, 0, 0));
        CHECKS.dueThrow("5 exchange", IllegalArgumentException.class, net, () -> net.exchange(0, 0, 0, 0));
        CHECKS.dueThrow("5 range", IndexOutOfBoundsException.class, net, () -> net.range(0, 0));
        CHECKS.due("5 undo", 0, net::undo);
        CHECKS.dueThrow("5 undo", IllegalStateException.class, net, net::undo);
    }
}
