/** Promises 23 to 26: shares, MEAN TIME, BEST orders, edges. */
public final class OrdersTest {
    private static final int NONE = -1000000, BAD = -1000001, NULL = -1000011, PLACE = -1000012;
    private static final int MIN = Integer.MIN_VALUE, MAX = Integer.MAX_VALUE;
    private static final Check check = new Check("OrdersTest");

    public static void main(String[] args) {
        promise23Share();
        promise24Mean();
        promise25Order();
        promise25OrderOfEqualOnes();
        promise25OrderByTryingAll();
        promise26Edge();
        promise26EdgeByLooking();
        promise26EdgeRefusals();
        check.end();
    }

    private static void promise23Share() {
        TestFloor x = new TestFloor();
        check.due("share(0, 0)", x.share(0, 0), BAD);
        x.test(0, 0, 1, 1);
        check.due("share(0, 10)", x.share(0, 10), 0);
        check.due("share(0, 3)", x.share(0, 3), 10);
        int[][] bad = {{0, -1}, {0, 11}, {1, 0}, {-1, 0}, {0, MAX}, {MIN, 0}};
        for (int[] b : bad) {
            check.due("share(" + b[0] + ", " + b[1] + ")", x.share(b[0], b[1]), BAD);
        }
        check.due("share(0, 0)", x.share(0, 0), 3);
    }

    private static TestFloor floorOf(int[] times, int[] shares) {
        TestFloor x = new TestFloor();
        for (int k = 0; k < times.length; k++) {
            x.test(0, 0, times[k], 1);
            x.share(k, shares[k]);
        }
        return x;
    }

    private static void promise24Mean() {
        check.due("mean() without TESTS", new TestFloor().mean(), 0);
        check.due("mean() of one", floorOf(new int[] {7}, new int[] {10}).mean(), 70);
        TestFloor x = floorOf(new int[] {7, 20, 300}, new int[] {4, 9, 1});
        check.due("mean() of three", x.mean(), 7000 + 20 * 600 + 300 * 60);
        x.move(2, 0);
        check.due("mean() of three in another order", x.mean(), 300000 + 7 * 900 + 20 * 540);
        x.share(2, 10);
        check.due("mean() when none passes the first", x.mean(), 300000);
        int[] most = new int[10];
        java.util.Arrays.fill(most, 999);
        check.due("mean() of the most", floorOf(most, new int[10]).mean(), 99900000000000L);
    }

    private static void flows(TestFloor x, int... tests) {
        for (int place = 0; place < tests.length; place++) {
            check.due("flow(" + place + ")", x.flow(place), tests[place]);
        }
        check.due("flow(" + tests.length + ")", x.flow(tests.length), NONE);
    }

    private static void promise25Order() {
        check.due("order() without TESTS", new TestFloor().order(), 0);
        TestFloor x = floorOf(new int[] {100, 10, 40}, new int[] {5, 1, 8});
        check.due("order()", x.order(), 40000 + 10 * 200 + 100 * 180);
        flows(x, 2, 1, 0);
        check.due("mean() after order()", x.mean(), 40000 + 10 * 200 + 100 * 180);
        x = floorOf(new int[] {5, 900, 1}, new int[] {0, 1, 0});
        check.due("order() with shares of 0 behind", x.order(), 900000 + 5 * 900 + 900);
        flows(x, 1, 0, 2);
        x = floorOf(new int[] {5, 9, 1, 8}, new int[] {0, 10, 0, 10});
        check.due("order() with a TEST that all fail", x.order(), 80000);
        flows(x, 3, 0, 1, 2);
        x = floorOf(new int[] {30, 20, 1, 7, 3}, new int[] {10, 10, 0, 4, 1});
        check.due("order() with TESTS ahead of the one that all fail", x.order(), 700000 + 20 * 60000);
        flows(x, 3, 1, 0, 2, 4);
    }

    private static void promise25OrderOfEqualOnes() {
        TestFloor x = floorOf(new int[] {20, 10, 30, 4}, new int[] {4, 2, 6, 1});
        x.move(3, 0);
        x.move(2, 1);
        x.order();
        flows(x, 3, 0, 1, 2);
        x = floorOf(new int[] {10, 5, 5, 10, 1}, new int[] {10, 5, 5, 10, 0});
        x.order();
        flows(x, 0, 1, 2, 3, 4);
        x = floorOf(new int[] {5, 10, 5, 10, 1}, new int[] {5, 10, 5, 10, 1});
        x.move(4, 0);
        x.order();
        flows(x, 0, 1, 2, 3, 4);
        x = floorOf(new int[] {3, 2, 1}, new int[3]);
        x.move(2, 0);
        x.order();
        flows(x, 0, 1, 2);
    }

    /** All orders of up to six TESTS, the one with the least numbers first: the first of the least MEAN TIMES is BEST. */
    private static void promise25OrderByTryingAll() {
        Dice dice = new Dice(25);
        for (int round = 0; round < 400; round++) {
            int n = 1 + dice.below(6);
            int[] times = new int[n];
            int[] shares = new int[n];
            for (int k = 0; k < n; k++) {
                times[k] = 1 + dice.below(round % 2 == 0 ? 6 : 999);
                shares[k] = dice.below(3) == 0 ? 10 * dice.below(2) : dice.below(11);
            }
            TestFloor x = floorOf(times, shares);
            for (int k = 0; k < n; k++) {
                x.move(dice.below(n), dice.below(n));
            }
            long told = x.order();
            int[] best = new int[n];
            long least = FloorModel.bestOrder(times, shares, best);
            check.due("order() of round " + round, told, least);
            check.due("mean() of round " + round, x.mean(), least);
            flows(x, best);
        }
    }

    private static void edges(TestFloor x, int i, int n, int ahead, int looks, int right) {
        check.due("edge(0, " + i + ", " + n + ", 0)", x.edge(0, i, n, 0), ahead);
        check.due("edge(0, " + i + ", " + n + ", 1)", x.edge(0, i, n, 1), looks);
        check.due("edge(0, " + i + ", " + n + ", 2)", x.edge(0, i, n, 2), right);
    }

    private static void promise26Edge() {
        TestFloor x = new TestFloor();
        Check.sheetOf(x, 0, 0, 0, 0, -1, 5, MIN, MAX);
        edges(x, 0, 7, 3, 3, 1);
        edges(x, 0, 1, 1, 1, 1);
        edges(x, 6, 1, 0, 1, 1);
        edges(x, 1, 2, 2, 1, 1);
        edges(x, 2, 2, 1, 2, 1);
        edges(x, 3, 4, 0, 3, 1);
        Check.sheetOf(x, 0, 1, 0, 0, 1);
        // the middle of 0 and 4 is 2, then 3
        edges(x, 0, 4, 3, 2, 0);
        Check.sheetOf(x, 0, 0, 0, 1, 0);
        // 2, 1
        edges(x, 0, 4, 2, 2, 0);
        edges(x, 2, 2, 2, 1, 0);
        Check.sheetOf(x, 0, 0, 1, 0, 1, 1, 0, 1);
        // 3, 1, 0
        edges(x, 0, 7, 1, 3, 0);
        int[] all = new int[100];
        for (int i = 70; i < 100; i++) {
            all[i] = 1;
        }
        Check.sheetOf(x, 0, all);
        edges(x, 40, 60, 30, 5, 1);
        edges(x, 0, 60, 60, 5, 1);
        edges(x, 39, 60, 31, 6, 1);
    }

    private static void promise26EdgeByLooking() {
        TestFloor x = new TestFloor();
        for (int n = 1; n <= 60; n++) {
            int cut = n * 7 % (n + 1);
            int[] items = new int[n];
            for (int i = cut; i < n; i++) {
                items[i] = 1 - 2 * (i % 2);
            }
            Check.sheetOf(x, 0, items);
            if (x.edge(0, 0, n, 0) != cut || x.edge(0, 0, n, 2) != 1) {
                check.due("edge(0, 0, " + n + ", 0)", x.edge(0, 0, n, 0), cut);
                check.due("edge(0, 0, " + n + ", 2)", x.edge(0, 0, n, 2), 1);
            }
            x = new TestFloor();
        }
    }

    private static void promise26EdgeRefusals() {
        TestFloor x = new TestFloor();
        x.sheet(1, 0, 100);
        int[][] bad = {{-1, 1, 0}, {8, 1, 0}, {1, 0, 0}, {1, 61, 0}, {1, -1, 0}, {1, 1, -1}, {1, 1, 3}, {1, MAX, 0},
            {1, MIN, 0}, {1, 1, MAX}};
        for (int[] b : bad) {
            String call = "edge(" + b[0] + ", 0, " + b[1] + ", " + b[2] + ")";
            check.due(call, x.edge(b[0], 0, b[1], b[2]), BAD);
        }
        check.due("edge(0, -1, 1, 0): NULL is ahead of PLACE", x.edge(0, -1, 1, 0), NULL);
        check.due("edge(0, 0, 61, 0): BAD is ahead of NULL", x.edge(0, 0, 61, 0), BAD);
        int[][] places = {{-1, 1}, {100, 1}, {99, 2}, {41, 60}, {MAX, 60}, {MIN, 1}, {MAX, 1}};
        for (int[] p : places) {
            check.due("edge(1, " + p[0] + ", " + p[1] + ", 0)", x.edge(1, p[0], p[1], 0), PLACE);
        }
        check.due("edge(1, 40, 60, 0)", x.edge(1, 40, 60, 0), 60);
        check.due("edge(1, 99, 1, 0)", x.edge(1, 99, 1, 0), 1);
    }
}
