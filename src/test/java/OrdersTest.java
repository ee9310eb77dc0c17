/** Promises 23 to 26: shares, MEAN TIME, BEST orders, edges. */
public final class OrdersTest {
    private static final int NONE = -1000000, BAD = -1000001, NULL = -1000011, PLACE = -1000012;
    private static final int MIN = Integer.MIN_VALUE, MAX = Integer.MAX_VALUE;
    private static final Check check = new Check("OrdersTest");

    public static void main(String[] args) {
        promise23Share();
        promise23LeastAndMost();
        promise23ZeroAtFirst();
        promise24Mean();
        promise24NoneAndOne();
        promise24LeastAndMostOfTen();
        promise24SharesOfNoneAndOfAll();
        promise25Order();
        promise25OrderOfEqualOnes();
        promise25OrderByTryingAll();
        promise25NoneAndOne();
        promise25OrderOfTen();
        promise25LeastNumbersOfSeveral();
        promise26Edge();
        promise26EdgeByLooking();
        promise26EdgeRefusals();
        promise26FirstRefusalThatFits();
        promise26AllAndNone();
        promise26FirstAndLastItems();
        promise26OneItem();
        promise26MiddleIsCut();
        promise26ItemsCutToZero();
        promise26RightForAll();
        check.end();
    }

    private static void promise23Share() {
        TestFloor x = new TestFloor();
        check.due("share(0, 0)", x.share(0, 0), BAD);
        x.test(0, 0, 1, 1);
        check.due("share(0, 10)", x.share(0, 10), 0);
        check.due("share(0, 3)", x.share(0, 3), 10);
        int[][] bad = {{0, -1}, {0, 11}, {1, 0}, {-1, 0}, {0, MAX}, {MIN, 0}};
        for (int[] b : bad) {
            check.due("share(" + b[0] + ", " + b[1] + ")", x.share(b[0], b[1]), BAD);
        }
        check.due("share(0, 0)", x.share(0, 0), 3);
    }

    /** "f by 10 (0 to 10, of its own)"; "BAD" leaves it as it was. */
    private static void promise23LeastAndMost() {
        TestFloor x = new TestFloor();
        for (int k = 0; k < 10; k++) {
            check.due("share(" + k + ", 0) of no such TEST", x.share(k, 0), BAD);
            x.test(0, 0, 1, 1);
        }
        for (int k = 0; k < 10; k++) {
            check.due("share(" + k + ", " + k + ")", x.share(k, k), 0);
        }
        for (int far : new int[] {MIN, MIN + 1, -1, 11, 12, MAX - 1, MAX}) {
            check.due("share(9, " + far + ")", x.share(9, far), BAD);
        }
        for (int far : new int[] {MIN, MIN + 1, -1, 10, 11, MAX - 1, MAX}) {
            check.due("share(" + far + ", 5)", x.share(far, 5), BAD);
        }
        for (int k = 0; k < 10; k++) {
            check.due("share(" + k + ", 10)", x.share(k, 10), k);
            check.due("share(" + k + ", 0)", x.share(k, 0), 10);
        }
    }

    /** "(0 at first)". */
    private static void promise23ZeroAtFirst() {
        TestFloor x = new TestFloor();
        for (int k = 0; k < 10; k++) {
            x.test(0, 0, 1, 1);
        }
        check.due("mean(): none fails", x.mean(), 10 * 10000000000L);
        for (int k = 9; k >= 0; k--) {
            check.due("share(" + k + ", 1)", x.share(k, 1), 0);
        }
    }

    private static TestFloor floorOf(int[] times, int[] shares) {
        TestFloor x = new TestFloor();
        for (int k = 0; k < times.length; k++) {
            x.test(0, 0, times[k], 1);
            x.share(k, shares[k]);
        }
        return x;
    }

    private static void promise24Mean() {
        check.due("mean() without TESTS", new TestFloor().mean(), 0);
        check.due("mean() of one", floorOf(new int[] {7}, new int[] {10}).mean(), 70);
        TestFloor x = floorOf(new int[] {7, 20, 300}, new int[] {4, 9, 1});
        check.due("mean() of three", x.mean(), 7000 + 20 * 600 + 300 * 60);
        x.move(2, 0);
        check.due("mean() of three in another order", x.mean(), 300000 + 7 * 900 + 20 * 540);
        x.share(2, 10);
        check.due("mean() when none passes the first", x.mean(), 300000);
        int[] most = new int[10];
        java.util.Arrays.fill(most, 999);
        check.due("mean() of the most", floorOf(most, new int[10]).mean(), 99900000000000L);
    }

    /** "(0 without)"; of one its share is nothing to the MEAN TIME. */
    private static void promise24NoneAndOne() {
        check.due("mean() without TESTS", new TestFloor().mean(), 0);
        for (int f = 0; f <= 10; f++) {
            check.due("mean() of one of 1", floorOf(new int[] {1}, new int[] {f}).mean(), 10);
            check.due("mean() of one of 999", floorOf(new int[] {999}, new int[] {f}).mean(), 9990);
        }
    }

    /** "times 10 to the power how many TESTS there are": ten, beyond all ints. */
    private static void promise24LeastAndMostOfTen() {
        int[] times = new int[10];
        int[] shares = new int[10];
        java.util.Arrays.fill(times, 999);
        check.due("mean() of 999, shares of 0", floorOf(times, shares).mean(), 99900000000000L);
        java.util.Arrays.fill(shares, 10);
        check.due("mean() of 999, shares of 10", floorOf(times, shares).mean(), 9990000000000L);
        java.util.Arrays.fill(shares, 9);
        check.due("mean() of 999, shares of 9", floorOf(times, shares).mean(), 999 * 11111111110L);
        java.util.Arrays.fill(times, 1);
        check.due("mean() of 1, shares of 9", floorOf(times, shares).mean(), 11111111110L);
        java.util.Arrays.fill(shares, 1);
        long due = 0;
        long nines = 1;
        for (int k = 0; k < 10; k++) {
            due += nines * (long) Math.pow(10, 10 - k);
            nines *= 9;
        }
        check.due("mean() of 1, shares of 1", floorOf(times, shares).mean(), due);
    }

    /** A share of 10: nothing behind it counts; a share of 0: all behind it does. */
    private static void promise24SharesOfNoneAndOfAll() {
        int[] times = {1, 20, 300};
        check.due("mean() of 0 0 0", floorOf(times, new int[] {0, 0, 0}).mean(), 321000);
        check.due("mean() of 10 0 0", floorOf(times, new int[] {10, 0, 0}).mean(), 1000);
        check.due("mean() of 0 10 0", floorOf(times, new int[] {0, 10, 0}).mean(), 21000);
        check.due("mean() of 0 0 10", floorOf(times, new int[] {0, 0, 10}).mean(), 321000);
        check.due("mean() of 5 5 5", floorOf(times, new int[] {5, 5, 5}).mean(), 1000 + 20 * 500 + 300 * 250);
    }

    private static void flows(TestFloor x, int... tests) {
        for (int place = 0; place < tests.length; place++) {
            check.due("flow(" + place + ")", x.flow(place), tests[place]);
        }
        check.due("flow(" + tests.length + ")", x.flow(tests.length), NONE);
    }

    private static void promise25Order() {
        check.due("order() without TESTS", new TestFloor().order(), 0);
        TestFloor x = floorOf(new int[] {100, 10, 40}, new int[] {5, 1, 8});
        check.due("order()", x.order(), 40000 + 10 * 200 + 100 * 180);
        flows(x, 2, 1, 0);
        check.due("mean() after order()", x.mean(), 40000 + 10 * 200 + 100 * 180);
        x = floorOf(new int[] {5, 900, 1}, new int[] {0, 1, 0});
        check.due("order() with shares of 0 behind", x.order(), 900000 + 5 * 900 + 900);
        flows(x, 1, 0, 2);
        x = floorOf(new int[] {5, 9, 1, 8}, new int[] {0, 10, 0, 10});
        check.due("order() with a TEST that all fail", x.order(), 80000);
        flows(x, 3, 0, 1, 2);
        x = floorOf(new int[] {30, 20, 1, 7, 3}, new int[] {10, 10, 0, 4, 1});
        check.due("order() with TESTS ahead of the one that all fail", x.order(), 700000 + 20 * 60000);
        flows(x, 3, 1, 0, 2, 4);
    }

    private static void promise25OrderOfEqualOnes() {
        TestFloor x = floorOf(new int[] {20, 10, 30, 4}, new int[] {4, 2, 6, 1});
        x.move(3, 0);
        x.move(2, 1);
        x.order();
        flows(x, 3, 0, 1, 2);
        x = floorOf(new int[] {10, 5, 5, 10, 1}, new int[] {10, 5, 5, 10, 0});
        x.order();
        flows(x, 0, 1, 2, 3, 4);
        x = floorOf(new int[] {5, 10, 5, 10, 1}, new int[] {5, 10, 5, 10, 1});
        x.move(4, 0);
        x.order();
        flows(x, 0, 1, 2, 3, 4);
        x = floorOf(new int[] {3, 2, 1}, new int[3]);
        x.move(2, 0);
        x.order();
        flows(x, 0, 1, 2);
    }

    /** All orders of up to six TESTS, that with the least numbers first: the first of the least MEAN TIMES is BEST. */
    private static void promise25OrderByTryingAll() {
        Dice dice = new Dice(25);
        for (int round = 0; round < 400; round++) {
            int n = 1 + dice.below(6);
            int[] times = new int[n];
            int[] shares = new int[n];
            for (int k = 0; k < n; k++) {
                times[k] = 1 + dice.below(round % 2 == 0 ? 6 : 999);
                shares[k] = dice.below(3) == 0 ? 10 * dice.below(2) : dice.below(11);
            }
            TestFloor x = floorOf(times, shares);
            for (int k = 0; k < n; k++) {
                x.move(dice.below(n), dice.below(n));
            }
            long told = x.order();
            int[] best = new int[n];
            long least = FloorModel.bestOrder(times, shares, best);
            check.due("order() of round " + round, told, least);
            check.due("mean() of round " + round, x.mean(), least);
            flows(x, best);
        }
    }

    private static void promise25NoneAndOne() {
        TestFloor x = new TestFloor();
        check.due("order() without TESTS", x.order(), 0);
        flows(x);
        for (int f = 0; f <= 10; f++) {
            x = floorOf(new int[] {999}, new int[] {f});
            check.due("order() of one", x.order(), 9990);
            flows(x, 0);
        }
    }

    /** The least MEAN TIME of each set of TESTS left, by those of the smaller sets; then the order, place by place. */
    private static long bestOfTen(int[] times, int[] shares, int[] best) {
        int n = times.length;
        long[] power = new long[n + 1];
        power[0] = 1;
        for (int k = 1; k <= n; k++) {
            power[k] = 10 * power[k - 1];
        }
        long[] least = new long[1 << n];
        for (int left = 1; left < 1 << n; left++) {
            least[left] = Long.MAX_VALUE;
            for (int test = 0; test < n; test++) {
                if ((left >> test & 1) == 1) {
                    long behind = (10 - shares[test]) * least[left & ~(1 << test)];
                    least[left] = Math.min(least[left], times[test] * power[Integer.bitCount(left)] + behind);
                }
            }
        }
        int left = (1 << n) - 1;
        boolean costsTime = true;
        for (int place = 0; place < n; place++) {
            int test = 0;
            while ((left >> test & 1) == 0 || costsTime && times[test] * power[n - place]
                + (10 - shares[test]) * least[left & ~(1 << test)] != least[left]) {
                test++;
            }
            best[place] = test;
            left &= ~(1 << test);
            costsTime &= shares[test] < 10;
        }
        return least[(1 << n) - 1];
    }

    /** "BEST: an order of least MEAN TIME", of as many TESTS as there can be. */
    private static void promise25OrderOfTen() {
        Dice dice = new Dice(2510);
        for (int round = 0; round < 200; round++) {
            int[] times = new int[10];
            int[] shares = new int[10];
            for (int k = 0; k < 10; k++) {
                times[k] = round % 4 == 0 ? 999 : 1 + dice.below(round % 2 == 0 ? 4 : 999);
                shares[k] = round % 3 == 0 ? 10 * dice.below(2) : dice.below(round % 5 == 0 ? 10 : 11);
            }
            TestFloor x = floorOf(times, shares);
            x.move(dice.below(10), dice.below(10));
            int[] best = new int[10];
            long least = bestOfTen(times, shares, best);
            check.due("order() of ten, round " + round, x.order(), least);
            check.due("mean() of ten, round " + round, x.mean(), least);
            flows(x, best);
        }
    }

    /** "of several that with the least numbers from the first on", wherever THE FLOW stood ahead. */
    private static void promise25LeastNumbersOfSeveral() {
        for (int f : new int[] {0, 1, 5, 9, 10}) {
            int[] times = new int[10];
            int[] shares = new int[10];
            java.util.Arrays.fill(times, 7);
            java.util.Arrays.fill(shares, f);
            TestFloor x = floorOf(times, shares);
            for (int k = 9; k >= 0; k--) {
                x.move(9 - k, 0);
            }
            check.due("flow(0) ahead", x.flow(0), 9);
            long mean = x.mean();
            check.due("order() of equal ones of share " + f, x.order(), mean);
            flows(x, 0, 1, 2, 3, 4, 5, 6, 7, 8, 9);
        }
        // 10 and a half of it, 998 and a half of it: as much time for each share of failing
        TestFloor x = floorOf(new int[] {10, 998, 5, 499}, new int[] {2, 4, 1, 2});
        x.order();
        flows(x, 0, 2, 1, 3);
        x = floorOf(new int[] {999, 999, 998}, new int[] {9, 10, 10});
        x.order();
        flows(x, 2, 0, 1);
        x = floorOf(new int[] {999, 998, 999}, new int[] {10, 9, 10});
        x.order();
        flows(x, 0, 1, 2);
    }

    private static void edges(TestFloor x, int i, int n, int ahead, int looks, int right) {
        check.due("edge(0, " + i + ", " + n + ", 0)", x.edge(0, i, n, 0), ahead);
        check.due("edge(0, " + i + ", " + n + ", 1)", x.edge(0, i, n, 1), looks);
        check.due("edge(0, " + i + ", " + n + ", 2)", x.edge(0, i, n, 2), right);
    }

    private static void promise26Edge() {
        TestFloor x = new TestFloor();
        Check.sheetOf(x, 0, 0, 0, 0, -1, 5, MIN, MAX);
        edges(x, 0, 7, 3, 3, 1);
        edges(x, 0, 1, 1, 1, 1);
        edges(x, 6, 1, 0, 1, 1);
        edges(x, 1, 2, 2, 1, 1);
        edges(x, 2, 2, 1, 2, 1);
        edges(x, 3, 4, 0, 3, 1);
        Check.sheetOf(x, 0, 1, 0, 0, 1);
        // the middle of 0 and 4 is 2, then 3
        edges(x, 0, 4, 3, 2, 0);
        Check.sheetOf(x, 0, 0, 0, 1, 0);
        // 2, 1
        edges(x, 0, 4, 2, 2, 0);
        edges(x, 2, 2, 2, 1, 0);
        Check.sheetOf(x, 0, 0, 1, 0, 1, 1, 0, 1);
        // 3, 1, 0
        edges(x, 0, 7, 1, 3, 0);
        int[] all = new int[100];
        for (int i = 70; i < 100; i++) {
            all[i] = 1;
        }
        Check.sheetOf(x, 0, all);
        edges(x, 40, 60, 30, 5, 1);
        edges(x, 0, 60, 60, 5, 1);
        edges(x, 39, 60, 31, 6, 1);
    }

    private static void promise26EdgeByLooking() {
        TestFloor x = new TestFloor();
        for (int n = 1; n <= 60; n++) {
            int cut = n * 7 % (n + 1);
            int[] items = new int[n];
            for (int i = cut; i < n; i++) {
                items[i] = 1 - 2 * (i % 2);
            }
            Check.sheetOf(x, 0, items);
            if (x.edge(0, 0, n, 0) != cut || x.edge(0, 0, n, 2) != 1) {
                check.due("edge(0, 0, " + n + ", 0)", x.edge(0, 0, n, 0), cut);
                check.due("edge(0, 0, " + n + ", 2)", x.edge(0, 0, n, 2), 1);
            }
            x = new TestFloor();
        }
    }

    private static void promise26EdgeRefusals() {
        TestFloor x = new TestFloor();
        x.sheet(1, 0, 100);
        int[][] bad = {{-1, 1, 0}, {8, 1, 0}, {1, 0, 0}, {1, 61, 0}, {1, -1, 0}, {1, 1, -1}, {1, 1, 3}, {1, MAX, 0},
            {1, MIN, 0}, {1, 1, MAX}};
        for (int[] b : bad) {
            String call = "edge(" + b[0] + ", 0, " + b[1] + ", " + b[2] + ")";
            check.due(call, x.edge(b[0], 0, b[1], b[2]), BAD);
        }
        check.due("edge(0, -1, 1, 0): NULL is ahead of PLACE", x.edge(0, -1, 1, 0), NULL);
        check.due("edge(0, 0, 61, 0): BAD is ahead of NULL", x.edge(0, 0, 61, 0), BAD);
        int[][] places = {{-1, 1}, {100, 1}, {99, 2}, {41, 60}, {MAX, 60}, {MIN, 1}, {MAX, 1}};
        for (int[] p : places) {
            check.due("edge(1, " + p[0] + ", " + p[1] + ", 0)", x.edge(1, p[0], p[1], 0), PLACE);
        }
        check.due("edge(1, 40, 60, 0)", x.edge(1, 40, 60, 0), 60);
        check.due("edge(1, 99, 1, 0)", x.edge(1, 99, 1, 0), 1);
    }

    /** "BAD: SHEET, n, what; NULL; PLACE", in this order. */
    private static void promise26FirstRefusalThatFits() {
        TestFloor x = new TestFloor();
        x.sheet(7, 0, 60);
        for (int far : new int[] {MIN, MIN + 1, -1, 8, 9, MAX}) {
            check.due("edge(" + far + ", 0, 1, 0)", x.edge(far, 0, 1, 0), BAD);
        }
        for (int far : new int[] {MIN, MIN + 1, -1, 0, 61, 62, MAX}) {
            check.due("edge(7, 0, " + far + ", 0)", x.edge(7, 0, far, 0), BAD);
            check.due("edge(6, 0, " + far + ", 0): BAD is ahead of NULL", x.edge(6, 0, far, 0), BAD);
            check.due("edge(7, 60, " + far + ", 0): BAD is ahead of PLACE", x.edge(7, 60, far, 0), BAD);
        }
        for (int far : new int[] {MIN, MIN + 1, -1, 3, 4, MAX}) {
            check.due("edge(7, 0, 1, " + far + ")", x.edge(7, 0, 1, far), BAD);
            check.due("edge(6, 0, 1, " + far + "): BAD is ahead of NULL", x.edge(6, 0, 1, far), BAD);
            check.due("edge(7, 60, 1, " + far + "): BAD is ahead of PLACE", x.edge(7, 60, 1, far), BAD);
        }
        for (int what = 0; what < 3; what++) {
            check.due("edge(6, 0, 60, " + what + ")", x.edge(6, 0, 60, what), NULL);
            check.due("edge(6, 60, 1, " + what + "): NULL is ahead of PLACE", x.edge(6, 60, 1, what), NULL);
            check.due("edge(7, 60, 1, " + what + ")", x.edge(7, 60, 1, what), PLACE);
            check.due("edge(7, 1, 60, " + what + ")", x.edge(7, 1, 60, what), PLACE);
            check.due("edge(7, -1, 60, " + what + ")", x.edge(7, -1, 60, what), PLACE);
        }
        x.sheet(7, 0, 0);
        check.due("edge(7, 0, 1, 0) of no ITEMS", x.edge(7, 0, 1, 0), PLACE);
    }

    private static int looksUpTo(int n) {
        int looks = 0;
        for (int left = n; left > 0; left = left - left / 2 - 1) {
            looks++;
        }
        return looks;
    }

    private static int looksDownTo(int n) {
        int looks = 0;
        for (int left = n; left > 0; left = left / 2) {
            looks++;
        }
        return looks;
    }

    /** "n 1 to 60": all 0, none 0; "how many of them are ahead of the edge": all, none. */
    private static void promise26AllAndNone() {
        for (int n = 1; n <= 60; n++) {
            TestFloor x = new TestFloor();
            x.sheet(0, 0, n);
            edges(x, 0, n, n, looksUpTo(n), 1);
            for (int i = 0; i < n; i++) {
                x.set(0, i, i % 2 == 0 ? 127 : -128);
            }
            edges(x, 0, n, 0, looksDownTo(n), 1);
            check.due("edge(0, 0, " + (n + 1) + ", 0)", x.edge(0, 0, n + 1, 0), n == 60 ? BAD : PLACE);
            check.due("edge(0, 1, " + n + ", 0)", x.edge(0, 1, n, 0), PLACE);
            check.due("edge(0, -1, " + n + ", 0)", x.edge(0, -1, n, 0), PLACE);
        }
    }

    /** "ITEMS i to i + n - 1": those ahead of i, and from i + n on, are not looked at. */
    private static void promise26FirstAndLastItems() {
        TestFloor x = new TestFloor();
        Check.sheetOf(x, 0, 1, 1, 0, 0, 1, 1, 0, 0);
        edges(x, 2, 4, 2, 2, 1);
        edges(x, 2, 2, 2, 1, 1);
        edges(x, 4, 2, 0, 2, 1);
        x = new TestFloor();
        x.sheet(0, 0, 100);
        x.set(0, 99, 1);
        edges(x, 99, 1, 0, 1, 1);
        edges(x, 40, 60, 59, 6, 1);
        edges(x, 39, 60, 60, 5, 1);
        edges(x, 98, 1, 1, 1, 1);
        for (int i : new int[] {MIN, MIN + 1, -60, -1, 41, 99, 100, 101, MAX - 60, MAX - 59, MAX - 1, MAX}) {
            check.due("edge(0, " + i + ", 60, 0)", x.edge(0, i, 60, 0), PLACE);
        }
    }

    private static void promise26OneItem() {
        TestFloor x = new TestFloor();
        Check.sheetOf(x, 0, 0, 1, -1, MIN, MAX);
        edges(x, 0, 1, 1, 1, 1);
        for (int i = 1; i < 5; i++) {
            edges(x, i, 1, 0, 1, 1);
        }
        check.due("edge(0, 5, 1, 0)", x.edge(0, 5, 1, 0), PLACE);
    }

    /** "the middle, cut, of both ends": of two ITEMS the second one is looked at first, of three the middle one. */
    private static void promise26MiddleIsCut() {
        TestFloor x = new TestFloor();
        Check.sheetOf(x, 0, 9, 1, 0, 9, 9);
        edges(x, 1, 2, 2, 1, 0);
        edges(x, 0, 3, 0, 2, 0);
        Check.sheetOf(x, 0, 9, 9, 1, 0, 9);
        edges(x, 2, 2, 2, 1, 0);
        edges(x, 1, 3, 0, 2, 0);
        edges(x, 2, 3, 2, 2, 0);
    }

    /** "0 or not" is what the ITEM is, its lowest bits. */
    private static void promise26ItemsCutToZero() {
        TestFloor x = new TestFloor();
        int[] values = {1, 255, 256, 65535, 65536, 1 << 31};
        for (int lane = 0; lane < 3; lane++) {
            x.sheet(lane, lane, 1);
            for (int value : values) {
                int kept = x.set(lane, 0, value);
                check.due("edge(" + lane + ", 0, 1, 0) of " + value, x.edge(lane, 0, 1, 0), kept == 0 ? 1 : 0);
            }
        }
    }

    /** "(2: 1, 0)": each row of up to eight ITEMS, looked at one by one. */
    private static void promise26RightForAll() {
        for (int n = 1; n <= 8; n++) {
            TestFloor x = new TestFloor();
            for (int row = 0; row < 1 << n; row++) {
                if (row % 32 == 0) {
                    x = new TestFloor();
                }
                x.sheet(0, 2, n);
                for (int i = 0; i < n; i++) {
                    x.set(0, i, row >> i & 1);
                }
                int ahead = x.edge(0, 0, n, 0);
                int rightRow = (1 << n) - (1 << ahead);
                check.due("edge(0, 0, " + n + ", 2) of " + row, x.edge(0, 0, n, 2), row == rightRow ? 1 : 0);
            }
        }
    }
}
