/** Promises 27 to 30: WAFERS, ODD places, JOIN, BEST MOVE. */
public final class WafersTest {
    private static final int NONE = -1000000, BAD = -1000001;
    private static final int MIN = Integer.MIN_VALUE, MAX = Integer.MAX_VALUE;
    private static final Check check = new Check("WafersTest");

    public static void main(String[] args) {
        promise27Die();
        promise28Odd();
        promise28OddNumbers();
        promise29Join();
        promise30Best();
        promise30BestOfEqualOnes();
        check.end();
    }

    private static void promise27Die() {
        TestFloor x = new TestFloor();
        int[][] bad = {{-1, 0, 0, 0}, {2, 0, 0, 0}, {0, -1, 0, 0}, {0, 12, 0, 0}, {0, 0, -1, 0}, {0, 0, 12, 0},
            {0, 0, 0, -1}, {0, 0, 0, 16}, {0, 0, 0, BAD}, {MAX, 0, 0, 0}, {0, MAX, 0, 0}, {0, 0, MIN, 0}, {0, 0, 0, MIN}};
        for (int[] b : bad) {
            String call = "die(" + b[0] + ", " + b[1] + ", " + b[2] + ", " + b[3] + ")";
            check.due(call, x.die(b[0], b[1], b[2], b[3]), BAD);
        }
        for (int place = 0; place < 144; place++) {
            check.due("die(0, place " + place + ")", x.die(0, place % 12, place / 12, place % 16), NONE);
        }
        for (int place = 0; place < 144; place++) {
            check.due("die(0, place " + place + ")", x.die(0, place % 12, place / 12, NONE), place % 16);
            check.due("die(1, place " + place + ")", x.die(1, place % 12, place / 12, NONE), NONE);
            check.due("die(0, place " + place + ")", x.die(0, place % 12, place / 12, NONE), NONE);
        }
    }

    private static void odds(TestFloor x, int wafer, int number, int... places) {
        String call = "odd(" + wafer + ", " + number + ", ";
        check.due(call + "NONE)", x.odd(wafer, number, NONE), places.length);
        for (int i = 0; i < places.length; i++) {
            check.due(call + i + ")", x.odd(wafer, number, i), places[i]);
        }
        check.due(call + places.length + ")", x.odd(wafer, number, places.length), NONE);
    }

    private static void promise28Odd() {
        TestFloor x = new TestFloor();
        int[][] bad = {{-1, 1}, {2, 1}, {0, 0}, {0, 9}, {0, -1}, {MAX, 1}, {0, MIN}};
        for (int[] b : bad) {
            check.due("odd(" + b[0] + ", " + b[1] + ", NONE)", x.odd(b[0], b[1], NONE), BAD);
            check.due("odd(" + b[0] + ", " + b[1] + ", 0)", x.odd(b[0], b[1], 0), BAD);
        }
        x.die(1, 3, 0, 0);
        x.die(1, 2, 1, 1);
        x.die(1, 1, 2, 0);
        x.die(1, 0, 1, 0);
        x.die(1, 11, 0, 2);
        x.die(1, 0, 0, 15);
        // 15 . . 0 .. 2
        //  0 . 1
        //  . 0
        odds(x, 1, 1, 3, 12, 25);
        odds(x, 1, 2);
        odds(x, 0, 1);
        check.due("odd(1, 1, -1)", x.odd(1, 1, -1), NONE);
        check.due("odd(1, 1, MIN)", x.odd(1, 1, MIN), NONE);
        check.due("odd(1, 1, MAX)", x.odd(1, 1, MAX), NONE);
        check.due("odd(1, 1, BAD)", x.odd(1, 1, BAD), NONE);
        x.die(1, 1, 1, 5);
        odds(x, 1, 2, 12, 25);
        x.die(1, 1, 1, 0);
        odds(x, 1, 2, 13);
        odds(x, 1, 1, 3, 12, 13, 25);
        x.die(1, 1, 1, NONE);
        odds(x, 1, 1, 3, 12, 25);
    }

    private static void promise28OddNumbers() {
        TestFloor x = new TestFloor();
        x.die(0, 5, 6, 0);
        int[][] around = {{4, 5}, {5, 5}, {6, 5}, {4, 6}, {6, 6}, {4, 7}, {5, 7}, {6, 7}};
        for (int k = 0; k < 8; k++) {
            x.die(0, around[k][0], around[k][1], 1 + k);
            for (int number = 1; number <= 8; number++) {
                if (number <= k + 1) {
                    odds(x, 0, number, 77);
                } else {
                    odds(x, 0, number);
                }
            }
        }
        x.die(0, 5, 6, 3);
        odds(x, 0, 1);
        x = new TestFloor();
        x.die(0, 5, 6, 0);
        for (int k = -2; k <= 2; k++) {
            x.die(0, 5 + k, 4, 1);
            x.die(0, 5 + k, 8, 1);
            x.die(0, 3, 6 + k, 1);
            x.die(0, 7, 6 + k, 1);
        }
        odds(x, 0, 1);
        int[][] corners = {{0, 0, 1, 1}, {11, 0, 10, 1}, {0, 11, 1, 10}, {11, 11, 10, 10}};
        x = new TestFloor();
        for (int[] c : corners) {
            x.die(0, c[0], c[1], 0);
            x.die(0, c[2], c[3], 4);
        }
        odds(x, 0, 1, 0, 11, 132, 143);
        odds(x, 0, 2);
    }

    private static void joins(TestFloor x, int dx, int dy, int... answers) {
        for (int what = 0; what < 4; what++) {
            check.due("join(" + dx + ", " + dy + ", " + what + ")", x.join(dx, dy, what), answers[what]);
        }
    }

    private static void promise29Join() {
        TestFloor x = new TestFloor();
        int[][] bad = {{-4, 0, 0}, {4, 0, 0}, {0, -4, 0}, {0, 4, 0}, {0, 0, -1}, {0, 0, 4}, {MAX, 0, 0}, {0, MIN, 0},
            {0, 0, MAX}};
        for (int[] b : bad) {
            check.due("join(" + b[0] + ", " + b[1] + ", " + b[2] + ")", x.join(b[0], b[1], b[2]), BAD);
        }
        joins(x, 0, 0, 0, 0, 0, 0);
        x.die(0, 11, 5, 3);
        x.die(0, 10, 5, 0);
        x.die(0, 0, 0, 1);
        x.die(1, 9, 5, 3);
        x.die(1, 8, 5, 1);
        x.die(1, 10, 5, 7);
        x.die(1, 0, 1, 1);
        joins(x, 2, 0, 2, 1, 1, 2);
        joins(x, 0, 0, 1, 0, 2, 3);
        joins(x, 3, 0, 1, 0, 2, 3);
        joins(x, 0, -1, 1, 1, 2, 3);
        joins(x, -1, 0, 0, 0, 3, 4);
        joins(x, 1, 0, 2, 0, 1, 2);
        joins(x, -3, -3, 0, 0, 3, 4);
        joins(x, 0, 3, 0, 0, 3, 4);
        joins(x, 3, 3, 0, 0, 3, 4);
        x = new TestFloor();
        for (int place = 0; place < 144; place++) {
            x.die(0, place % 12, place / 12, place % 16);
            x.die(1, place % 12, place / 12, place % 16);
        }
        joins(x, 0, 0, 144, 144, 0, 0);
        joins(x, 1, 0, 132, 0, 12, 12);
        joins(x, 0, -3, 108, 0, 36, 36);
        joins(x, -3, 3, 81, 0, 63, 63);
        joins(x, 3, 3, 81, 0, 63, 63);
    }

    private static void moves(TestFloor x, int dx, int dy, int same) {
        check.due("best(0)", x.best(0), dx);
        check.due("best(1)", x.best(1), dy);
        check.due("best(2)", x.best(2), same);
    }

    private static void promise30Best() {
        TestFloor x = new TestFloor();
        for (int what : new int[] {-1, 3, MAX, MIN}) {
            check.due("best(" + what + ")", x.best(what), BAD);
        }
        moves(x, -3, -3, 0);
        x.die(0, 5, 5, 3);
        x.die(1, 2, 8, 3);
        moves(x, 3, -3, 1);
        x.die(0, 6, 5, 4);
        x.die(1, 5, 5, 3);
        x.die(1, 6, 5, 4);
        moves(x, 0, 0, 2);
        x.die(1, 6, 5, 5);
        // once each by (0, 0), where both have two BINS, and by (3, -3), where both have one
        moves(x, 3, -3, 1);
    }

    private static void promise30BestOfEqualOnes() {
        TestFloor x = new TestFloor();
        x.die(0, 5, 5, 1);
        x.die(1, 4, 6, 1);
        x.die(1, 6, 4, 1);
        x.die(1, 4, 4, 1);
        x.die(1, 6, 6, 1);
        moves(x, -1, -1, 1);
        x.die(1, 6, 6, NONE);
        moves(x, -1, 1, 1);
        x.die(1, 6, 4, NONE);
        moves(x, 1, -1, 1);
        x.die(1, 4, 6, NONE);
        moves(x, 1, 1, 1);
        x.die(1, 4, 4, 2);
        x.die(0, 7, 7, 2);
        moves(x, 3, 3, 1);
        x.die(0, 7, 7, 9);
        // none is the same: least of TWICE, as far to the left and above as can be
        moves(x, -3, -3, 0);
        x.die(0, 1, 1, 0);
        moves(x, -3, -2, 0);
    }
}
