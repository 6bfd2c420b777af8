import java.util.Arrays;
import java.util.function.Consumer;
import java.util.function.Function;
import java.util.function.Supplier;

/**
 * Every method with every mixture of right and wrong arguments, in objects with room and without: of the exceptions
 * that apply the one that is listed first is thrown, and nothing changes.
 */
final class Refusals {
    private static final int LOW = Checks.LOW;
    private static final int HIGH = Checks.HIGH;

    private Refusals() {
    }

    static void firstListed(Checks c) {
        addNode(c);
        moveAndAssume(c);
        looksAtNodes(c);
        exchange(c);
        plan(c);
        run(c);
        looksAtExchanges(c);
        latestRange(c);
        errors(c);
        relativeDrift(c);
        calibrate(c);
        fix(c);
        undo(c);
    }

    private static void addNode(Checks c) {
        int[] coordinates = {LOW, -1001, -1000, 1000, 1001, HIGH};
        int[][] rows = {{0, 5, 6}, coordinates, {-1001, -1000, 1000, 1001}, {-101, -100, 100, 101},
            {-1, 0, 1048575, 1048576}, {-1, 0, 200, 201}};
        each(rows, v -> {
            boolean outside = outside(v[1], -1000, 1000) || outside(v[2], -1000, 1000) || outside(v[3], -100, 100)
                    || outside(v[4], 0, 1048575) || outside(v[5], 0, 200);
            due(c, "addNode", v, first(outside, Checks.ARGUMENT, v[0] == 6, Checks.STATE),
                    () -> Nets.nodes(v[0]), net -> net.addNode(v[1], v[2], v[3], v[4], v[5]));
        });
    }

    private static void moveAndAssume(Checks c) {
        int[] nodes = {LOW, -1, 0, 2, 3, 6, HIGH};
        int[] coordinates = {LOW, -1001, -1000, 0, 1000, 1001, HIGH};
        each(new int[][] {nodes, coordinates, coordinates}, v -> {
            boolean noNode = outside(v[0], 0, 2);
            boolean outside = outside(v[1], -1000, 1000) || outside(v[2], -1000, 1000);
            due(c, "move", v, first(noNode, Checks.NO_SUCH, outside, Checks.ARGUMENT),
                    () -> Nets.nodes(3), net -> net.move(v[0], v[1], v[2]));
        });
        each(new int[][] {nodes, coordinates}, v -> {
            boolean noNode = outside(v[0], 0, 2);
            due(c, "assume", v, first(noNode, Checks.NO_SUCH, outside(v[1], -1000, 1000), Checks.ARGUMENT),
                    () -> Nets.nodes(3), net -> net.assume(v[0], v[1]));
        });
    }

    private static void looksAtNodes(Checks c) {
        int[] nodes = {LOW, -1, 0, 1, 5, 6, HIGH};
        int[] counts = {0, 1, 6};
        each(new int[][] {counts, nodes}, v ->
            due(c, "assumed", v, first(outside(v[1], 0, v[0] - 1), Checks.NO_SUCH),
                    () -> Nets.nodes(v[0]), net -> net.assumed(v[1])));
        each(new int[][] {counts, nodes, nodes}, v -> {
            boolean noNode = outside(v[1], 0, v[0] - 1) || outside(v[2], 0, v[0] - 1);
            due(c, "distance", v, first(noNode, Checks.NO_SUCH),
                    () -> Nets.nodes(v[0]), net -> net.distance(v[1], v[2]));
        });
        each(new int[][] {counts, nodes, {LOW, -1, 0, 900000001, 1000000000, 1000000001, HIGH}}, v -> {
            boolean noNode = outside(v[1], 0, v[0] - 1);
            due(c, "counter", v, first(noNode, Checks.NO_SUCH, outside(v[2], 0, 1000000000), Checks.ARGUMENT),
                    () -> Nets.nodes(v[0]), net -> net.counter(v[1], v[2]));
        });
    }

    private static void exchange(Checks c) {
        int[] nodes = {LOW, -1, 0, 1, 2, HIGH};
        int[] replies = {LOW, -1, 0, 400000, 400001, HIGH};
        each(new int[][] {{0, 39, 40}, nodes, nodes, replies, replies}, v -> {
            boolean noNode = outside(v[1], 0, 1) || outside(v[2], 0, 1);
            boolean wrong = v[1] == v[2] || outside(v[3], 0, 400000) || outside(v[4], 0, 400000);
            due(c, "exchange", v,
                    first(noNode, Checks.NO_SUCH, wrong, Checks.ARGUMENT, v[0] == 40, Checks.STATE),
                    () -> Nets.exchanges(v[0]), net -> net.exchange(v[1], v[2], v[3], v[4]));
        });
    }

    private static void plan(Checks c) {
        int[] times = {LOW, -1, 0, 900000000, 900000001, HIGH};
        int[] nodes = {-1, 0, 1, 2};
        int[] replies = {-1, 0, 400000, 400001};
        each(new int[][] {{0, 19, 20}, times, nodes, nodes, replies, replies}, v -> {
            boolean noNode = outside(v[2], 0, 1) || outside(v[3], 0, 1);
            boolean wrong = v[2] == v[3] || outside(v[1], 0, 900000000) || outside(v[4], 0, 400000)
                    || outside(v[5], 0, 400000);
            due(c, "plan", v, first(noNode, Checks.NO_SUCH, wrong, Checks.ARGUMENT, v[0] == 20, Checks.STATE),
                    () -> Nets.plans(v[0]), net -> net.plan(v[1], v[2], v[3], v[4], v[5]));
        });
    }

    private static void run(Checks c) {
        each(new int[][] {{0, 20}, {LOW, -1, 0, 900000000, 900000001, HIGH}}, v ->
            due(c, "run", v, first(outside(v[1], 0, 900000000), Checks.ARGUMENT),
                    () -> Nets.plans(v[0]), net -> net.run(v[1])));
    }

    private static void looksAtExchanges(Checks c) {
        int[] exchanges = {LOW, -1, 0, 1, 39, 40, HIGH};
        int[] counts = {0, 1, 2, 40};
        each(new int[][] {counts, exchanges, {LOW, -1, 0, 1, 6, 7, HIGH}}, v -> {
            boolean noExchange = outside(v[1], 0, v[0] - 1);
            due(c, "stamp", v, first(noExchange, Checks.NO_SUCH, outside(v[2], 1, 6), Checks.ARGUMENT),
                    () -> Nets.exchanges(v[0]), net -> net.stamp(v[1], v[2]));
        });
        each(new int[][] {counts, exchanges, {LOW, -1, 0, 1, 2, HIGH}}, v -> {
            boolean noExchange = outside(v[1], 0, v[0] - 1);
            due(c, "party", v, first(noExchange, Checks.NO_SUCH, outside(v[2], 0, 1), Checks.ARGUMENT),
                    () -> Nets.exchanges(v[0]), net -> net.party(v[1], v[2]));
        });
        each(new int[][] {counts, exchanges, {LOW, -1, 0, 1, 2, 3, HIGH}}, v -> {
            boolean noExchange = outside(v[1], 0, v[0] - 1);
            due(c, "range", v, first(noExchange, Checks.NO_SUCH, outside(v[2], 0, 2), Checks.ARGUMENT),
                    () -> Nets.exchanges(v[0]), net -> net.range(v[1], v[2]));
        });
    }

    private static void latestRange(Checks c) {
        int[] nodes = {LOW, -1, 0, 1, 2, 3, 4, HIGH};
        each(new int[][] {nodes, nodes, {LOW, -1, 0, 2, 3, HIGH}}, v -> {
            boolean noNode = outside(v[0], 0, 3) || outside(v[1], 0, 3);
            boolean neverMet = v[0] == v[1] || v[0] == 3 || v[1] == 3;
            due(c, "latestRange", v, first(noNode, Checks.NO_SUCH, outside(v[2], 0, 2), Checks.ARGUMENT,
                    neverMet, Checks.STATE), Nets::triangle, net -> net.latestRange(v[0], v[1], v[2]));
        });
    }

    private static void errors(Checks c) {
        each(new int[][] {{0, 1, 40}, {LOW, -1, 0, 1, 2, 3, HIGH}}, v -> {
            Class<? extends RuntimeException> due = first(outside(v[1], 0, 2), Checks.ARGUMENT);
            due(c, "worstError", v, due, () -> Nets.exchanges(v[0]), net -> net.worstError(v[1]));
            due(c, "meanError", v, due, () -> Nets.exchanges(v[0]), net -> net.meanError(v[1]));
        });
    }

    /** The first exchange of these takes no time on one spot, the second does. */
    private static void relativeDrift(Checks c) {
        Supplier<RangingNet> recipe = () -> {
            RangingNet net = Nets.oneSpot();
            net.exchange(0, 1, 0, 0);
            net.exchange(0, 1, 1, 0);
            return net;
        };
        each(new int[][] {{LOW, -1, 0, 1, 2, 40, HIGH}}, v ->
            due(c, "relativeDrift", v, first(outside(v[0], 0, 1), Checks.NO_SUCH, v[0] == 0, Checks.ARITHMETIC),
                    recipe, net -> net.relativeDrift(v[0])));
    }

    private static void calibrate(Checks c) {
        int[] nodes = {LOW, -1, 0, 1, 2, 3, 4, HIGH};
        each(new int[][] {nodes, nodes, nodes}, v -> {
            boolean noNode = outside(v[0], 0, 3) || outside(v[1], 0, 3) || outside(v[2], 0, 3);
            boolean same = v[0] == v[1] || v[0] == v[2] || v[1] == v[2];
            boolean neverMet = v[0] == 3 || v[1] == 3 || v[2] == 3;
            due(c, "calibrate", v, first(noNode, Checks.NO_SUCH, same, Checks.ARGUMENT, neverMet, Checks.STATE),
                    Nets::triangle, net -> net.calibrate(v[0], v[1], v[2]));
        });
    }

    /** Nodes 0, 1 and 2 stand in one line, no other three do; all have met but 3 and 4. */
    private static RangingNet fiveNodes() {
        RangingNet net = Nets.nodes(3);
        net.addNode(0, 10, 0, 0, 0);
        net.addNode(4, 5, 0, 0, 0);
        for (int a = 0; a < 5; a++) {
            for (int b = a + 1; b < 5; b++) {
                if (a != 3) {
                    net.exchange(a, b, 0, 0);
                }
            }
        }
        return net;
    }

    private static void fix(Checks c) {
        int[] some = {LOW, -12, -1, 0, 11, 12, 21, 34, 111, 120, 123, 124, 134, 143, 201, 234, 340, 344, 345, 512, 999,
            1000, 1012, HIGH};
        int[] nodes = {LOW, -1, 0, 1, 3, 4, 5, HIGH};
        each(new int[][] {nodes, some, {LOW, -1, 0, 2, 3, HIGH}, {LOW, -1, 0, 1, 2, HIGH}}, v -> fix(c, v));
        int[] all = new int[1002];
        for (int i = 0; i < all.length; i++) {
            all[i] = i - 1;
        }
        each(new int[][] {{-1, 0, 2, 3, 4, 5}, all, {2}, {1}}, v -> fix(c, v));
    }

    private static void fix(Checks c, int[] v) {
        int i = v[1] / 100;
        int j = v[1] / 10 % 10;
        int k = v[1] % 10;
        boolean noNode = outside(v[0], 0, 4) || outside(v[1], 0, 999) || outside(i, 0, 4) || outside(j, 0, 4)
                || outside(k, 0, 4);
        boolean wrong = v[0] == i || v[0] == j || v[0] == k || i == j || i == k || j == k || outside(v[2], 0, 2)
                || outside(v[3], 0, 1);
        boolean missing = v[0] == 3 && (i == 4 || j == 4 || k == 4) || v[0] == 4 && (i == 3 || j == 3 || k == 3);
        boolean inLine = i <= 2 && j <= 2 && k <= 2;
        due(c, "fix", v, first(noNode, Checks.NO_SUCH, wrong, Checks.ARGUMENT, missing, Checks.STATE,
                inLine, Checks.ARITHMETIC), Refusals::fiveNodes, net -> net.fix(v[0], v[1], v[2], v[3]));
    }

    private static void undo(Checks c) {
        c.refused("undo()", Checks.STATE, RangingNet::new, RangingNet::undo);
        c.taken("undo()", () -> Nets.nodes(1), RangingNet::undo);
    }

    private static void due(Checks c, String method, int[] values, Class<? extends RuntimeException> due,
            Supplier<RangingNet> recipe, Function<RangingNet, Object> call) {
        String what = method + Arrays.toString(values);
        if (due == null) {
            c.taken(what, recipe, call);
        } else {
            c.refused(what, due, recipe, call);
        }
    }

    private static boolean outside(int value, int least, int most) {
        return value < least || value > most;
    }

    private static Class<? extends RuntimeException> first(boolean one, Class<? extends RuntimeException> ofOne) {
        return one ? ofOne : null;
    }

    private static Class<? extends RuntimeException> first(boolean one, Class<? extends RuntimeException> ofOne,
            boolean two, Class<? extends RuntimeException> ofTwo) {
        return one ? ofOne : first(two, ofTwo);
    }

    private static Class<? extends RuntimeException> first(boolean one, Class<? extends RuntimeException> ofOne,
            boolean two, Class<? extends RuntimeException> ofTwo,
            boolean three, Class<? extends RuntimeException> ofThree) {
        return one ? ofOne : first(two, ofTwo, three, ofThree);
    }

    private static Class<? extends RuntimeException> first(boolean one, Class<? extends RuntimeException> ofOne,
            boolean two, Class<? extends RuntimeException> ofTwo,
            boolean three, Class<? extends RuntimeException> ofThree,
            boolean four, Class<? extends RuntimeException> ofFour) {
        return one ? ofOne : first(two, ofTwo, three, ofThree, four, ofFour);
    }

    /** All ways to take one value from each row. */
    private static void each(int[][] rows, Consumer<int[]> use) {
        int[] values = new int[rows.length];
        each(rows, 0, values, use);
    }

    private static void each(int[][] rows, int row, int[] values, Consumer<int[]> use) {
        if (row == rows.length) {
            use.accept(values.clone());
            return;
        }
        for (int value : rows[row]) {
            values[row] = value;
            each(rows, row + 1, values, use);
        }
    }
}
