/** Promises 27 to 30: WAFERS, ODD places, JOIN, BEST MOVE. */
public final class WafersTest {
    private static final int NONE = -1000000, BAD = -1000001;
    private static final int MIN = Integer.MIN_VALUE, MAX = Integer.MAX_VALUE;
    private static final Check check = new Check("WafersTest");

    public static void main(String[] args) {
        promise27Die();
        promise27LeastAndMost();
        promise27RefusedLeavesThePlace();
        promise28Odd();
        promise28OddNumbers();
        promise28NeighboursAtCornersAndEdges();
        promise28NoNeighboursAcrossTheEdge();
        promise28ItselfAndOthersOfBinZero();
        promise28FirstAndLastOddPlace();
        promise28FarNumbers();
        promise29Join();
        promise29FarthestMoves();
        promise29NoPlaceAcrossTheEdge();
        promise29EmptyWafers();
        promise29FarNumbers();
        promise30Best();
        promise30BestOfEqualOnes();
        promise30EachMove();
        promise30FarNumbers();
        check.end();
    }

    private static void promise27Die() {
        TestFloor x = new TestFloor();
        int[][] bad = {{-1, 0, 0, 0}, {2, 0, 0, 0}, {0, -1, 0, 0}, {0, 12, 0, 0}, {0, 0, -1, 0}, {0, 0, 12, 0},
            {0, 0, 0, -1}, {0, 0, 0, 16}, {0, 0, 0, BAD}, {MAX, 0, 0, 0}, {0, MAX, 0, 0}, {0, 0, MIN, 0},
            {0, 0, 0, MIN}};
        for (int[] b : bad) {
            String call = "die(" + b[0] + ", " + b[1] + ", " + b[2] + ", " + b[3] + ")";
            check.due(call, x.die(b[0], b[1], b[2], b[3]), BAD);
        }
        x = new TestFloor();
        for (int place = 0; place < 144; place++) {
            check.due("die(0, place " + place + ")", x.die(0, place % 12, place / 12, place % 16), NONE);
        }
        for (int place = 0; place < 144; place++) {
            check.due("die(0, place " + place + ")", x.die(0, place % 12, place / 12, NONE), place % 16);
            check.due("die(1, place " + place + ")", x.die(1, place % 12, place / 12, NONE), NONE);
        }
        check.due("die(0, 11, 11, NONE)", x.die(0, 11, 11, NONE), NONE);
    }

    /** "places x, y, 0 to 11 each", "a BIN (0 to 15), or is empty (NONE)". */
    private static void promise27LeastAndMost() {
        TestFloor x = new TestFloor();
        for (int wafer = 0; wafer < 2; wafer++) {
            for (int place : new int[] {0, 11, 132, 143}) {
                int was = NONE;
                for (int bin = 0; bin < 16; bin++) {
                    String call = "die(" + wafer + ", place " + place + ", " + bin + ")";
                    check.due(call, x.die(wafer, place % 12, place / 12, bin), was);
                    was = bin;
                }
                check.due("die of NONE", x.die(wafer, place % 12, place / 12, NONE), 15);
                check.due("die of NONE again", x.die(wafer, place % 12, place / 12, NONE), NONE);
            }
        }
        for (int far : new int[] {MIN, MIN + 1, -1, 2, 3, MAX}) {
            check.due("die(" + far + ", 0, 0, 0)", x.die(far, 0, 0, 0), BAD);
        }
        for (int far : new int[] {MIN, MIN + 1, -1, 12, 13, MAX}) {
            check.due("die(0, " + far + ", 0, 0)", x.die(0, far, 0, 0), BAD);
            check.due("die(0, 0, " + far + ", 0)", x.die(0, 0, far, 0), BAD);
            check.due("die(0, " + far + ", 0, NONE)", x.die(0, far, 0, NONE), BAD);
        }
        for (int far : new int[] {MIN, MIN + 1, NONE - 1, NONE + 1, -2, -1, 16, 17, MAX}) {
            check.due("die(0, 0, 0, " + far + ")", x.die(0, 0, 0, far), BAD);
        }
    }

    private static void promise27RefusedLeavesThePlace() {
        TestFloor x = new TestFloor();
        x.die(0, 11, 5, 7);
        x.die(0, 0, 6, 8);
        check.due("die(0, 12, 5, 1)", x.die(0, 12, 5, 1), BAD);
        check.due("die(0, -1, 6, 1)", x.die(0, -1, 6, 1), BAD);
        check.due("die(0, 11, 5, 16)", x.die(0, 11, 5, 16), BAD);
        check.due("die(2, 11, 5, 1)", x.die(2, 11, 5, 1), BAD);
        check.due("die(0, 11, 5, NONE)", x.die(0, 11, 5, NONE), 7);
        check.due("die(0, 0, 6, NONE)", x.die(0, 0, 6, NONE), 8);
        check.due("die(1, 11, 5, NONE)", x.die(1, 11, 5, NONE), NONE);
        joins(x, 0, 0, 0, 0, 0, 0);
    }

    private static void odds(TestFloor x, int wafer, int number, int... places) {
        String call = "odd(" + wafer + ", " + number + ", ";
        check.due(call + "NONE)", x.odd(wafer, number, NONE), places.length);
        for (int i = 0; i < places.length; i++) {
            check.due(call + i + ")", x.odd(wafer, number, i), places[i]);
        }
        check.due(call + places.length + ")", x.odd(wafer, number, places.length), NONE);
    }

    private static void promise28Odd() {
        TestFloor x = new TestFloor();
        int[][] bad = {{-1, 1}, {2, 1}, {0, 0}, {0, 9}, {0, -1}, {MAX, 1}, {0, MIN}};
        for (int[] b : bad) {
            check.due("odd(" + b[0] + ", " + b[1] + ", NONE)", x.odd(b[0], b[1], NONE), BAD);
            check.due("odd(" + b[0] + ", " + b[1] + ", 0)", x.odd(b[0], b[1], 0), BAD);
        }
        x.die(1, 3, 0, 0);
        x.die(1, 2, 1, 1);
        x.die(1, 1, 2, 0);
        x.die(1, 0, 1, 0);
        x.die(1, 11, 0, 2);
        x.die(1, 0, 0, 15);
        // 15 . . 0 .. 2
        //  0 . 1
        //  . 0
        odds(x, 1, 1, 3, 12, 25);
        odds(x, 1, 2);
        odds(x, 0, 1);
        check.due("odd(1, 1, -1)", x.odd(1, 1, -1), NONE);
        check.due("odd(1, 1, MIN)", x.odd(1, 1, MIN), NONE);
        check.due("odd(1, 1, MAX)", x.odd(1, 1, MAX), NONE);
        check.due("odd(1, 1, BAD)", x.odd(1, 1, BAD), NONE);
        x.die(1, 1, 1, 5);
        odds(x, 1, 2, 12, 25);
        x.die(1, 1, 1, 0);
        odds(x, 1, 2, 13);
        odds(x, 1, 1, 3, 12, 13, 25);
        x.die(1, 1, 1, NONE);
        odds(x, 1, 1, 3, 12, 25);
    }

    private static void promise28OddNumbers() {
        TestFloor x = new TestFloor();
        x.die(0, 5, 6, 0);
        int[][] around = {{4, 5}, {5, 5}, {6, 5}, {4, 6}, {6, 6}, {4, 7}, {5, 7}, {6, 7}};
        for (int k = 0; k < 8; k++) {
            x.die(0, around[k][0], around[k][1], 1 + k);
            for (int number = 1; number <= 8; number++) {
                if (number <= k + 1) {
                    odds(x, 0, number, 77);
                } else {
                    odds(x, 0, number);
                }
            }
        }
        x.die(0, 5, 6, 3);
        odds(x, 0, 1);
        x = new TestFloor();
        x.die(0, 5, 6, 0);
        for (int k = -2; k <= 2; k++) {
            x.die(0, 5 + k, 4, 1);
            x.die(0, 5 + k, 8, 1);
            x.die(0, 3, 6 + k, 1);
            x.die(0, 7, 6 + k, 1);
        }
        odds(x, 0, 1);
        int[][] corners = {{0, 0, 1, 1}, {11, 0, 10, 1}, {0, 11, 1, 10}, {11, 11, 10, 10}};
        x = new TestFloor();
        for (int[] c : corners) {
            x.die(0, c[0], c[1], 0);
            x.die(0, c[2], c[3], 4);
        }
        odds(x, 0, 1, 0, 11, 132, 143);
        odds(x, 0, 2);
    }

    /** "the up to 8 around": 3 at a corner, 5 at an edge, 8 elsewhere. */
    private static void promise28NeighboursAtCornersAndEdges() {
        TestFloor x = new TestFloor();
        for (int place = 0; place < 144; place++) {
            x.die(1, place % 12, place / 12, 1 + place % 15);
        }
        int[] ends = {0, 1, 5, 10, 11};
        for (int px : ends) {
            for (int py : ends) {
                int around = (px % 11 == 0 ? 2 : 3) * (py % 11 == 0 ? 2 : 3) - 1;
                int was = x.die(1, px, py, 0);
                check.due("odd(1, " + around + ", NONE) of " + px + ", " + py, x.odd(1, around, NONE), 1);
                check.due("odd(1, " + around + ", 0) of " + px + ", " + py, x.odd(1, around, 0), 12 * py + px);
                int more = x.odd(1, around + 1, NONE);
                check.due("odd(1, " + (around + 1) + ", NONE) of " + px + ", " + py, more, around == 8 ? BAD : 0);
                x.die(1, px, py, was);
            }
        }
        odds(x, 1, 1);
        odds(x, 0, 1);
    }

    /** The last place of a row has none in the next row's first one, nor the lowest row in the highest one. */
    private static void promise28NoNeighboursAcrossTheEdge() {
        TestFloor x = new TestFloor();
        x.die(0, 11, 5, 0);
        x.die(0, 0, 9, 0);
        for (int k = 0; k < 4; k++) {
            x.die(0, 0, 4 + k, 3);
            x.die(0, 11, 7 + k, 3);
        }
        x.die(0, 2, 0, 0);
        x.die(0, 8, 11, 0);
        for (int k = 0; k < 3; k++) {
            x.die(0, 1 + k, 11, 3);
            x.die(0, 7 + k, 0, 3);
        }
        odds(x, 0, 1);
        x.die(0, 11, 4, 3);
        odds(x, 0, 1, 71);
        odds(x, 0, 2);
    }

    /** "of whose NEIGHBOURS with a BIN as many as told, or more, have another one than 0". */
    private static void promise28ItselfAndOthersOfBinZero() {
        TestFloor x = new TestFloor();
        for (int k = 0; k < 9; k++) {
            x.die(0, 4 + k % 3, 4 + k / 3, 0);
        }
        odds(x, 0, 1);
        x.die(0, 5, 5, 15);
        odds(x, 0, 1, 52, 53, 54, 64, 66, 76, 77, 78);
        odds(x, 0, 2);
        x.die(0, 5, 5, NONE);
        odds(x, 0, 1);
        x.die(0, 4, 4, 1);
        x.die(0, 6, 4, 1);
        x.die(0, 5, 5, 0);
        odds(x, 0, 1, 53, 64, 65, 66);
        odds(x, 0, 2, 53, 65);
        odds(x, 0, 3);
        x.die(0, 5, 5, 2);
        odds(x, 0, 3, 53);
        odds(x, 0, 4);
    }

    /** "the i-th one, by y, then x ..; NONE: there are not so many (another i below 0, too)". */
    private static void promise28FirstAndLastOddPlace() {
        TestFloor x = new TestFloor();
        check.due("odd(0, 1, NONE) of none", x.odd(0, 1, NONE), 0);
        check.due("odd(0, 1, 0) of none", x.odd(0, 1, 0), NONE);
        for (int place = 0; place < 144; place++) {
            x.die(0, place % 12, place / 12, place / 12 % 2 == 1 ? 1 : 0);
        }
        check.due("odd(0, 1, NONE)", x.odd(0, 1, NONE), 72);
        for (int i = 0; i < 72; i++) {
            check.due("odd(0, 1, " + i + ")", x.odd(0, 1, i), 24 * (i / 12) + i % 12);
        }
        for (int far : new int[] {MIN, MIN + 1, NONE - 1, NONE + 1, -2, -1, 72, 73, 143, 144, MAX}) {
            check.due("odd(0, 1, " + far + ")", x.odd(0, 1, far), NONE);
        }
        x = new TestFloor();
        x.die(0, 0, 0, 0);
        x.die(0, 1, 0, 1);
        x.die(0, 11, 11, 0);
        x.die(0, 10, 11, 1);
        odds(x, 0, 1, 0, 143);
    }

    /** "BAD: WAFER, number", whatever i is. */
    private static void promise28FarNumbers() {
        TestFloor x = new TestFloor();
        for (int i : new int[] {NONE, -1, 0, MIN, MAX}) {
            for (int far : new int[] {MIN, MIN + 1, -1, 2, 3, MAX}) {
                check.due("odd(" + far + ", 1, " + i + ")", x.odd(far, 1, i), BAD);
            }
            for (int far : new int[] {MIN, MIN + 1, -1, 0, 9, 10, MAX}) {
                check.due("odd(1, " + far + ", " + i + ")", x.odd(1, far, i), BAD);
            }
            for (int number : new int[] {1, 8}) {
                check.due("odd(1, " + number + ", " + i + ")", x.odd(1, number, i), i == NONE ? 0 : NONE);
            }
        }
    }

    private static void joins(TestFloor x, int dx, int dy, int... answers) {
        for (int what = 0; what < 4; what++) {
            check.due("join(" + dx + ", " + dy + ", " + what + ")", x.join(dx, dy, what), answers[what]);
        }
    }

    private static void promise29Join() {
        TestFloor x = new TestFloor();
        int[][] bad = {{-4, 0, 0}, {4, 0, 0}, {0, -4, 0}, {0, 4, 0}, {0, 0, -1}, {0, 0, 4}, {MAX, 0, 0}, {0, MIN, 0},
            {0, 0, MAX}};
        for (int[] b : bad) {
            check.due("join(" + b[0] + ", " + b[1] + ", " + b[2] + ")", x.join(b[0], b[1], b[2]), BAD);
        }
        joins(x, 0, 0, 0, 0, 0, 0);
        x.die(0, 11, 5, 3);
        x.die(0, 10, 5, 0);
        x.die(0, 0, 0, 1);
        x.die(1, 9, 5, 3);
        x.die(1, 8, 5, 1);
        x.die(1, 10, 5, 7);
        x.die(1, 0, 1, 1);
        joins(x, 2, 0, 2, 1, 1, 2);
        joins(x, 0, 0, 1, 0, 2, 3);
        joins(x, 3, 0, 1, 0, 2, 3);
        joins(x, 0, -1, 1, 1, 2, 3);
        joins(x, -1, 0, 0, 0, 3, 4);
        joins(x, 1, 0, 2, 0, 1, 2);
        joins(x, -3, -3, 0, 0, 3, 4);
        joins(x, 0, 3, 0, 0, 3, 4);
        joins(x, 3, 3, 0, 0, 3, 4);
        x = new TestFloor();
        for (int place = 0; place < 144; place++) {
            x.die(0, place % 12, place / 12, place % 16);
            x.die(1, place % 12, place / 12, place % 16);
        }
        joins(x, 0, 0, 144, 144, 0, 0);
        joins(x, 1, 0, 132, 0, 12, 12);
        joins(x, 0, -3, 108, 0, 36, 36);
        joins(x, -3, 3, 81, 0, 63, 63);
        joins(x, 3, 3, 81, 0, 63, 63);
    }

    private static void moves(TestFloor x, int dx, int dy, int same) {
        check.due("best(0)", x.best(0), dx);
        check.due("best(1)", x.best(1), dy);
        check.due("best(2)", x.best(2), same);
    }

    private static void promise30Best() {
        TestFloor x = new TestFloor();
        for (int what : new int[] {-1, 3, MAX, MIN}) {
            check.due("best(" + what + ")", x.best(what), BAD);
        }
        moves(x, -3, -3, 0);
        x.die(0, 5, 5, 3);
        x.die(1, 2, 8, 3);
        moves(x, 3, -3, 1);
        x.die(0, 6, 5, 4);
        x.die(1, 5, 5, 3);
        x.die(1, 6, 5, 4);
        moves(x, 0, 0, 2);
        x.die(1, 6, 5, 5);
        // once each by (0, 0), where both have two BINS, and by (3, -3), where both have one
        moves(x, 3, -3, 1);
    }

    private static void promise30BestOfEqualOnes() {
        TestFloor x = new TestFloor();
        x.die(0, 5, 5, 1);
        x.die(1, 4, 6, 1);
        x.die(1, 6, 4, 1);
        x.die(1, 4, 4, 1);
        x.die(1, 6, 6, 1);
        moves(x, -1, -1, 1);
        x.die(1, 6, 6, NONE);
        moves(x, -1, 1, 1);
        x.die(1, 6, 4, NONE);
        moves(x, 1, -1, 1);
        x.die(1, 4, 6, NONE);
        moves(x, 1, 1, 1);
        x.die(1, 4, 4, 2);
        x.die(0, 7, 7, 2);
        moves(x, 3, 3, 1);
        x.die(0, 7, 7, 9);
        // none is the same: least of TWICE, as far to the left and above as can be
        moves(x, -3, -3, 0);
        x.die(0, 1, 1, 0);
        moves(x, -3, -2, 0);
    }

    /** "moved by dx, dy (-3 to 3)": each of the 49, by one place of each WAFER. */
    private static void promise29FarthestMoves() {
        TestFloor x = new TestFloor();
        x.die(0, 5, 5, 9);
        for (int dx = -3; dx <= 3; dx++) {
            for (int dy = -3; dy <= 3; dy++) {
                x.die(1, 5 - dx, 5 - dy, 9);
                joins(x, dx, dy, 1, 1, 0, 0);
                x.die(1, 5 - dx, 5 - dy, 8);
                check.due("join(" + dx + ", " + dy + ", 1)", x.join(dx, dy, 1), 0);
                x.die(1, 5 - dx, 5 - dy, NONE);
            }
        }
    }

    /** "where x + dx, y + dy is one of the first": the next row's first place is not, nor one of the other end. */
    private static void promise29NoPlaceAcrossTheEdge() {
        TestFloor x = new TestFloor();
        x.die(0, 0, 6, 1);
        x.die(0, 11, 5, 1);
        x.die(0, 3, 0, 1);
        x.die(0, 3, 11, 1);
        x.die(1, 11, 5, 1);
        x.die(1, 0, 6, 1);
        x.die(1, 3, 11, 1);
        x.die(1, 3, 0, 1);
        joins(x, 0, 0, 4, 4, 0, 0);
        joins(x, 1, 0, 0, 0, 4, 4);
        joins(x, -1, 0, 0, 0, 4, 4);
        joins(x, 0, 1, 0, 0, 4, 4);
        joins(x, 0, -1, 0, 0, 4, 4);
        x.die(1, 10, 5, 2);
        joins(x, 1, 0, 1, 0, 3, 4);
        x.die(1, 1, 6, 1);
        joins(x, -1, 0, 1, 1, 3, 5);
    }

    private static void promise29EmptyWafers() {
        TestFloor x = new TestFloor();
        joins(x, 0, 0, 0, 0, 0, 0);
        joins(x, -3, 3, 0, 0, 0, 0);
        x.die(0, 0, 0, 0);
        joins(x, 0, 0, 0, 0, 1, 0);
        joins(x, -3, -3, 0, 0, 1, 0);
        x.die(0, 0, 0, NONE);
        x.die(1, 0, 0, 0);
        joins(x, 0, 0, 0, 0, 0, 1);
        joins(x, -3, -3, 0, 0, 0, 1);
        x.die(0, 0, 0, 0);
        joins(x, 0, 0, 1, 1, 0, 0);
        x.die(0, 0, 0, 15);
        joins(x, 0, 0, 1, 0, 0, 0);
    }

    private static void promise29FarNumbers() {
        TestFloor x = new TestFloor();
        for (int far : new int[] {MIN, MIN + 1, NONE, -5, -4, 4, 5, MAX}) {
            check.due("join(" + far + ", 0, 0)", x.join(far, 0, 0), BAD);
            check.due("join(0, " + far + ", 0)", x.join(0, far, 0), BAD);
        }
        for (int far : new int[] {MIN, MIN + 1, -1, 4, 5, MAX}) {
            check.due("join(0, 0, " + far + ")", x.join(0, 0, far), BAD);
        }
    }

    /** "of several the least dx, then dy": -3 to 3 each, told by the one place that is the same. */
    private static void promise30EachMove() {
        for (int dx = -3; dx <= 3; dx++) {
            TestFloor x = new TestFloor();
            x.die(0, 5, 5, 9);
            for (int dy = -3; dy <= 3; dy++) {
                x.die(1, 5 - dx, 5 - dy, 9);
                moves(x, dx, dy, 1);
                x.die(1, 5 - dx, 5 - dy, 0);
                // It is not the same any more; the least move by which nothing is TWICE.
                moves(x, -3, dx == -3 && dy == -3 ? -2 : -3, 0);
                x.die(1, 5 - dx, 5 - dy, NONE);
            }
        }
        TestFloor x = new TestFloor();
        for (int place = 0; place < 144; place++) {
            x.die(0, place % 12, place / 12, 0);
            x.die(1, place % 12, place / 12, 0);
        }
        moves(x, 0, 0, 144);
    }

    private static void promise30FarNumbers() {
        TestFloor x = new TestFloor();
        for (int far : new int[] {MIN, MIN + 1, NONE, -1, 3, 4, MAX}) {
            check.due("best(" + far + ")", x.best(far), BAD);
        }
        moves(x, -3, -3, 0);
    }
}
