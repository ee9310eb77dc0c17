/** Promises 31 to 35: LOTS, HELD, CHANCE, count. */
public final class LotsTest {
    private static final int BAD = -1000001, STATE = -1000002, FULL = -1000003;
    private static final int MIN = Integer.MIN_VALUE, MAX = Integer.MAX_VALUE;
    private static final Check check = new Check("LotsTest");

    public static void main(String[] args) {
        promise31Lot();
        promise31LotOfAllOfTheLog();
        promise31RefusedChipsAreInNoLot();
        promise32Bins();
        promise32EachBin();
        promise32LastBinCounts();
        promise33Held();
        promise33HeldBySharesOfAHundred();
        promise33LeastAndMost();
        promise33EachBinAboveZero();
        promise33NoChips();
        promise34Chance();
        promise34ChanceOfManyChips();
        promise34ChanceByTryingAll();
        promise34ChanceAfterTries();
        promise34OneChip();
        promise34NoneAndAllOfBinZero();
        promise34FortyChipsOfEachNumber();
        promise34ChipsOfOtherLots();
        promise34FirstRefusalThatFits();
        promise35Count();
        promise35LeastAndMost();
        promise35FarNumbers();
        promise35LinesAsTold();
        check.end();
    }

    /** SHEET 0 passes; SHEET k gives BIN k (1 to 4). */
    private static TestFloor floor() {
        TestFloor x = new TestFloor();
        for (int test = 0; test < 4; test++) {
            x.test(0, 0, 1, test + 1);
        }
        for (int sheet = 0; sheet < 5; sheet++) {
            x.sheet(sheet, 0, 4);
            if (sheet > 0) {
                x.set(sheet, sheet - 1, 1);
            }
        }
        return x;
    }

    private static void chips(TestFloor x, int sheet, int seat, int times) {
        for (int k = 0; k < times; k++) {
            x.chip(sheet, seat);
        }
    }

    private static void promise31Lot() {
        TestFloor x = floor();
        check.due("lot()", x.lot(), 0);
        chips(x, 0, 0, 3);
        check.due("count(3)", x.count(3), 3);
        check.due("lot()", x.lot(), 3);
        check.due("count(3)", x.count(3), 0);
        check.due("count(2)", x.count(2), 3);
        chips(x, 1, 0, 2);
        check.due("chip(0, 0)", x.chip(0, 0), 5);
        check.due("lot()", x.lot(), 3);
        check.due("lot()", x.lot(), 0);
    }

    /** "all CHIPS of THE LOG since the latest lot()": 200, when there was none; none, right behind one. */
    private static void promise31LotOfAllOfTheLog() {
        TestFloor x = floor();
        chips(x, 0, 0, 200);
        check.due("count(3)", x.count(3), 200);
        check.due("lot()", x.lot(), 200);
        check.due("count(3)", x.count(3), 0);
        check.due("lot()", x.lot(), 0);
        check.due("lot()", x.lot(), 0);
        check.due("chip(0, 0)", x.chip(0, 0), FULL);
        check.due("lot()", x.lot(), 0);
        check.due("count(2): THE LOG as it was", x.count(2), 200);
        check.due("told(199, 0)", x.told(199, 0), 0);
    }

    /** A CHIP that was refused, or found, is not in THE LOG, nor in the LOT. */
    private static void promise31RefusedChipsAreInNoLot() {
        TestFloor x = floor();
        x.chip(0, 8);
        x.chip(7, 0);
        x.sheet(6, 0, 0);
        x.chip(6, 0);
        check.due("count(3)", x.count(3), 0);
        x.chip(1, 0);
        x.chip(8, 0);
        x.chip(6, 0);
        check.due("lot()", x.lot(), 1);
        check.due("lot()", x.lot(), 0);
    }

    private static void promise32Bins() {
        TestFloor x = floor();
        for (int bin : new int[] {-1, 16, MAX, MIN}) {
            check.due("bins(" + bin + ")", x.bins(bin), BAD);
        }
        chips(x, 0, 0, 5);
        chips(x, 2, 0, 3);
        chips(x, 4, 0, 1);
        x.dead(1);
        chips(x, 0, 1, 2);
        int[] due = {5, 0, 3, 0, 1, 0, 0, 0, 0, 0, 0, 0, 0, 0, 0, 2};
        for (int bin = 0; bin < 16; bin++) {
            check.due("bins(" + bin + ")", x.bins(bin), due[bin]);
        }
        x.lot();
        for (int bin = 0; bin < 16; bin++) {
            check.due("bins(" + bin + ") of the next LOT", x.bins(bin), 0);
        }
        chips(x, 2, 0, 1);
        check.due("bins(2) of the next LOT", x.bins(2), 1);
        check.due("bins(0) of the next LOT", x.bins(0), 0);
    }

    /** "how many of each BIN": 0 to 15, each by as many CHIPS as none else. */
    private static void promise32EachBin() {
        TestFloor x = new TestFloor();
        for (int k = 0; k < 10; k++) {
            x.test(0, 0, 1, k + 1);
        }
        for (int bin = 1; bin <= 10; bin++) {
            x.sheet(0, 0, 10);
            x.set(0, bin - 1, 1);
            chips(x, 0, 0, bin);
        }
        for (int bin = 0; bin < 16; bin++) {
            check.due("bins(" + bin + ")", x.bins(bin), bin <= 10 ? bin : 0);
        }
        for (int far : new int[] {MIN, MIN + 1, -1, 16, 17, 31, 32, MAX - 1, MAX}) {
            check.due("bins(" + far + ")", x.bins(far), BAD);
        }
        x = new TestFloor();
        for (int k = 0; k < 5; k++) {
            x.test(0, 0, 1, k + 11);
        }
        for (int bin = 11; bin <= 15; bin++) {
            x.sheet(0, 0, 5);
            x.set(0, bin - 11, 1);
            chips(x, 0, 0, bin);
        }
        for (int bin = 0; bin < 16; bin++) {
            check.due("bins(" + bin + ")", x.bins(bin), bin >= 11 ? bin : 0);
        }
    }

    /** "Its last BIN is the one it has": a CHIP counts once, whatever it had ahead. */
    private static void promise32LastBinCounts() {
        TestFloor x = floor();
        x.law(0xfffe, 2);
        x.seat(0, 1);
        chips(x, 0, 0, 3);
        chips(x, 0, 7, 2);
        x.seat(1, 1);
        chips(x, 0, 0, 1);
        check.due("bins(0)", x.bins(0), 5);
        check.due("bins(1)", x.bins(1), 1);
        check.due("count(3)", x.count(3), 6);
    }

    private static void promise33Held() {
        TestFloor x = floor();
        int[][] bad = {{-1, 0}, {101, 0}, {0, -1}, {MAX, 0}, {MIN, 0}, {0, MIN}};
        for (int[] b : bad) {
            check.due("held(" + b[0] + ", " + b[1] + ")", x.held(b[0], b[1]), BAD);
        }
        check.due("held(0, 0)", x.held(0, 0), STATE);
        chips(x, 0, 0, 1);
        check.due("held(100, 0) of one that is good", x.held(100, 0), 0);
        chips(x, 1, 0, 1);
        check.due("held(0, 0)", x.held(0, 0), 1);
        check.due("held(0, 1)", x.held(0, 1), 0);
        check.due("held(50, 1)", x.held(50, 1), 0);
        check.due("held(51, 1)", x.held(51, 1), 1);
        check.due("held(0, MAX)", x.held(0, MAX), 0);
        check.due("held(100, MAX)", x.held(100, MAX), 1);
        x.dead(1);
        chips(x, 0, 1, 3);
        check.due("held(0, 2): BIN 15 counts", x.held(0, 2), 1);
        check.due("held(0, 3)", x.held(0, 3), 0);
        x.lot();
        check.due("held(0, 0) of a LOT without CHIPS", x.held(0, 0), STATE);
        check.due("held(0, -1): BAD is ahead of STATE", x.held(0, -1), BAD);
        chips(x, 0, 0, 9);
        check.due("held(100, 0): 9 of BIN 0 are not too many", x.held(100, 0), 0);
    }

    private static void promise33HeldBySharesOfAHundred() {
        TestFloor x = floor();
        chips(x, 0, 0, 2);
        chips(x, 1, 0, 1);
        // 66 and two thirds of 100
        check.due("held(66, 1)", x.held(66, 1), 0);
        check.due("held(67, 1)", x.held(67, 1), 1);
        chips(x, 0, 0, 131);
        chips(x, 1, 0, 66);
        check.due("held(66, 67)", x.held(66, 67), 0);
        check.due("held(67, 67)", x.held(67, 67), 1);
        check.due("held(66, 66)", x.held(66, 66), 1);
    }

    /** "Y (0 to 100) and M (0 or more)": "fewer than Y of 100", "more than M". */
    private static void promise33LeastAndMost() {
        TestFloor x = floor();
        chips(x, 0, 0, 99);
        chips(x, 1, 0, 1);
        for (int far : new int[] {MIN, MIN + 1, -1, 101, 102, MAX - 1, MAX}) {
            check.due("held(" + far + ", 0)", x.held(far, 0), BAD);
        }
        for (int far : new int[] {MIN, MIN + 1, -2, -1}) {
            check.due("held(0, " + far + ")", x.held(0, far), BAD);
        }
        check.due("held(99, 1): 99 are not fewer than 99 of 100", x.held(99, 1), 0);
        check.due("held(100, 1)", x.held(100, 1), 1);
        check.due("held(99, 0)", x.held(99, 0), 1);
        check.due("held(0, 1)", x.held(0, 1), 0);
        check.due("held(100, MAX)", x.held(100, MAX), 1);
        check.due("held(99, MAX)", x.held(99, MAX), 0);
        chips(x, 0, 0, 99);
        check.due("held(99, 1): 198 of 199 are more than 99 of 100", x.held(99, 1), 0);
        check.due("held(100, 1): 198 of 199 are fewer than all", x.held(100, 1), 1);
        chips(x, 1, 0, 1);
        check.due("held(99, 2): 198 of 200", x.held(99, 2), 0);
        check.due("held(99, 1): 2 are more than 1", x.held(99, 1), 1);
        x = floor();
        chips(x, 1, 0, 199);
        chips(x, 0, 0, 1);
        check.due("held(0, 199)", x.held(0, 199), 0);
        check.due("held(0, 198)", x.held(0, 198), 1);
        check.due("held(1, 199): 1 of 200 is fewer than 1 of 100", x.held(1, 199), 1);
        x = floor();
        chips(x, 1, 0, 1);
        check.due("held(0, 1): none are not fewer than 0 of 100", x.held(0, 1), 0);
        check.due("held(1, 1)", x.held(1, 1), 1);
    }

    /** "some BIN above 0 has more than M": each of them, and none by the sum of them. */
    private static void promise33EachBinAboveZero() {
        for (int bin = 1; bin <= 15; bin++) {
            TestFloor x = new TestFloor();
            x.test(0, 0, 1, bin);
            x.test(0, 0, 1, bin % 15 + 1);
            Check.sheetOf(x, 0, 0, 0);
            Check.sheetOf(x, 1, 1, 0);
            Check.sheetOf(x, 2, 0, 1);
            chips(x, 0, 0, 30);
            check.due("held(0, 0): 30 of BIN 0", x.held(0, 0), 0);
            chips(x, 1, 0, 5);
            chips(x, 2, 0, 4);
            check.due("held(0, 5) of BIN " + bin, x.held(0, 5), 0);
            check.due("held(0, 4) of BIN " + bin, x.held(0, 4), 1);
        }
    }

    /** "STATE: it has no CHIPS", though the one before had; BAD is ahead. */
    private static void promise33NoChips() {
        TestFloor x = floor();
        check.due("held(100, 0)", x.held(100, 0), STATE);
        check.due("held(101, 0)", x.held(101, 0), BAD);
        chips(x, 1, 0, 3);
        check.due("held(100, 0)", x.held(100, 0), 1);
        x.lot();
        check.due("held(100, 0)", x.held(100, 0), STATE);
        check.due("held(0, MAX)", x.held(0, MAX), STATE);
        check.due("held(-1, 0)", x.held(-1, 0), BAD);
        check.due("held(0, -1)", x.held(0, -1), BAD);
    }

    private static void chances(TestFloor x, int seat, long so, long all) {
        check.due("chance(" + seat + ", 0)", x.chance(seat, 0), so);
        check.due("chance(" + seat + ", 1)", x.chance(seat, 1), all);
    }

    private static void promise34Chance() {
        TestFloor x = floor();
        int[][] bad = {{-1, 0}, {8, 0}, {0, -1}, {0, 2}, {MAX, 0}, {0, MIN}};
        for (int[] b : bad) {
            check.due("chance(" + b[0] + ", " + b[1] + ")", x.chance(b[0], b[1]), BAD);
        }
        chances(x, 0, STATE, STATE);
        chips(x, 0, 0, 1);
        chips(x, 1, 0, 2);
        chips(x, 0, 1, 4);
        // N 7, P 5; n 3, a 1: C(5,0) C(2,3) and C(5,1) C(2,2)
        chances(x, 0, 5, 35);
        // n 4, a 4: all
        chances(x, 1, 35, 35);
        chances(x, 2, STATE, STATE);
        chips(x, 2, 2, 1);
        // N 8, P 5; n 1, a 0
        chances(x, 2, 3, 8);
        // n 3, a 1: C(5,0) C(3,3) and C(5,1) C(3,2)
        chances(x, 0, 16, 56);
        x.lot();
        chances(x, 0, STATE, STATE);
        chips(x, 1, 0, 2);
        chances(x, 0, 1, 1);
    }

    private static void promise34ChanceOfManyChips() {
        TestFloor x = floor();
        chips(x, 1, 0, 20);
        chips(x, 0, 1, 20);
        chances(x, 0, 1, 137846528820L);
        chances(x, 1, 137846528820L, 137846528820L);
        chips(x, 0, 1, 1);
        chances(x, 0, STATE, STATE);
        x.lot();
        chips(x, 0, 0, 10);
        chips(x, 1, 0, 10);
        chips(x, 0, 1, 10);
        chips(x, 1, 1, 10);
        // the half of all, and half of those that have just 10
        chances(x, 0, (137846528820L + 184756L * 184756L) / 2, 137846528820L);
    }

    /** All sets of n of N CHIPS, counted one by one. */
    private static void promise34ChanceByTryingAll() {
        Dice dice = new Dice(34);
        for (int round = 0; round < 60; round++) {
            TestFloor x = floor();
            int n = 1 + dice.below(11);
            int passed = 0;
            int seated = 0;
            int both = 0;
            for (int k = 0; k < n; k++) {
                int sheet = dice.below(2);
                int seat = dice.below(2);
                x.chip(sheet, seat);
                passed |= (1 - sheet) << k;
                seated |= (1 - seat) << k;
                both += (1 - sheet) * (1 - seat);
            }
            long so = 0;
            long all = 0;
            for (int set = 0; set < 1 << n; set++) {
                if (Integer.bitCount(set) == Integer.bitCount(seated)) {
                    all++;
                    so += Integer.bitCount(set & passed) <= both ? 1 : 0;
                }
            }
            chances(x, 0, seated == 0 ? STATE : so, seated == 0 ? STATE : all);
        }
    }

    private static void promise34ChanceAfterTries() {
        TestFloor x = floor();
        x.seat(0, 1);
        x.law(2, 2);
        chips(x, 0, 0, 2);
        chips(x, 0, 1, 1);
        chips(x, 1, 1, 1);
        // SEAT 0 fails its CHIPS, SEAT 1 passes them: first TRIED in SEAT 0, and BIN 0 at last
        check.due("told(0, 3)", x.told(0, 3), 1);
        check.due("bins(0)", x.bins(0), 3);
        // N 4, P 3; n 2, a 2
        chances(x, 0, 6, 6);
        // n 2, a 1: C(3,0) C(1,2) and C(3,1) C(1,1)
        chances(x, 1, 3, 6);
        chances(x, 2, STATE, STATE);
    }

    private static void promise34OneChip() {
        for (int seat = 0; seat < 8; seat++) {
            for (int sheet = 0; sheet < 2; sheet++) {
                TestFloor x = floor();
                x.chip(sheet, seat);
                for (int other = 0; other < 8; other++) {
                    chances(x, other, other == seat ? 1 : STATE, other == seat ? 1 : STATE);
                }
            }
        }
    }

    /** P none and all; a none and all of n; n all of N. */
    private static void promise34NoneAndAllOfBinZero() {
        TestFloor x = floor();
        chips(x, 1, 0, 3);
        chips(x, 1, 1, 2);
        chances(x, 0, 10, 10);
        chances(x, 1, 10, 10);
        x.lot();
        chips(x, 0, 0, 3);
        chips(x, 0, 1, 2);
        chances(x, 0, 10, 10);
        x.lot();
        chips(x, 0, 0, 3);
        chips(x, 1, 1, 2);
        // a 3 of n 3: all ways; a 0 of n 2: the two that are not of BIN 0
        chances(x, 0, 10, 10);
        chances(x, 1, 1, 10);
        x.lot();
        chips(x, 0, 2, 2);
        chips(x, 1, 2, 3);
        chances(x, 2, 1, 1);
        chances(x, 0, STATE, STATE);
    }

    /** "(N 40 at most)": by every n, and the one that is too many. */
    private static void promise34FortyChipsOfEachNumber() {
        for (int n = 1; n <= 40; n++) {
            TestFloor x = floor();
            chips(x, 1, 7, n);
            chips(x, 0, 3, 40 - n);
            java.math.BigInteger all = java.math.BigInteger.ONE;
            for (int k = 1; k <= n; k++) {
                all = all.multiply(java.math.BigInteger.valueOf(41 - k)).divide(java.math.BigInteger.valueOf(k));
            }
            chances(x, 7, 1, all.longValueExact());
            if (n < 40) {
                chances(x, 3, all.longValueExact(), all.longValueExact());
            } else {
                chances(x, 3, STATE, STATE);
            }
            x.chip(0, 5);
            chances(x, 7, STATE, STATE);
            chances(x, 5, STATE, STATE);
        }
    }

    /** Those of the LOT alone are N, P, n and a. */
    private static void promise34ChipsOfOtherLots() {
        TestFloor x = floor();
        chips(x, 0, 0, 50);
        chances(x, 0, STATE, STATE);
        x.lot();
        chances(x, 0, STATE, STATE);
        chips(x, 1, 1, 2);
        chips(x, 0, 2, 2);
        chances(x, 0, STATE, STATE);
        chances(x, 1, 1, 6);
        chances(x, 2, 6, 6);
        x.lot();
        chances(x, 1, STATE, STATE);
    }

    /** "BAD as a long; STATE as a long". */
    private static void promise34FirstRefusalThatFits() {
        TestFloor x = floor();
        for (int round = 0; round < 2; round++) {
            for (int far : new int[] {MIN, MIN + 1, -1, 8, 9, MAX - 1, MAX}) {
                chances(x, far, BAD, BAD);
            }
            for (int far : new int[] {MIN, MIN + 1, -1, 2, 3, MAX - 1, MAX}) {
                check.due("chance(0, " + far + ")", x.chance(0, far), BAD);
                check.due("chance(5, " + far + "): BAD is ahead of STATE", x.chance(5, far), BAD);
            }
            chips(x, 0, 0, 41);
        }
        chances(x, 0, STATE, STATE);
    }

    private static void promise35Count() {
        TestFloor x = floor();
        for (int what : new int[] {-1, 8, MAX, MIN}) {
            check.due("count(" + what + ")", x.count(what), BAD);
        }
        chips(x, 0, 0, 4);
        x.lot();
        chips(x, 0, 0, 3);
        x.dead(0);
        x.dead(7);
        Check.tape(x, "3(01L;2(XXX;))111;");
        x.pattern();
        Check.tape(x, "1;2");
        int[] due = {5, 4, 7, 3, 2, 3, 3, 3};
        for (int what = 0; what < 8; what++) {
            check.due("count(" + what + ")", x.count(what), due[what]);
        }
        x.drop(2);
        check.due("count(0)", x.count(0), 4);
        x.seat(7, 0);
        check.due("count(4)", x.count(4), 1);
    }

    private static void counts(TestFloor x, int... due) {
        for (int what = 0; what < due.length; what++) {
            check.due("count(" + what + ")", x.count(what), due[what]);
        }
    }

    /** None of all, and as many as there can be. */
    private static void promise35LeastAndMost() {
        TestFloor x = new TestFloor();
        counts(x, 0, 0, 0, 0, 0, 0, 0, 0);
        for (int k = 0; k < 8; k++) {
            x.sheet(k, 0, 10);
            x.dead(k);
        }
        for (int k = 0; k < 10; k++) {
            x.test(0, 0, 1, 1);
        }
        chips(x, 0, 0, 200);
        Check.tape(x, "01LHX01L;".repeat(44));
        x.pattern();
        Check.tape(x, "1;".repeat(200));
        counts(x, 8, 10, 200, 200, 8, 8, 44, 400);
        x.sheet(0, 0, 101);
        x.sheet(8, 0, 0);
        x.test(0, 0, 1, 1);
        x.chip(0, 0);
        x.dead(0);
        x.dead(8);
        x.feed(0, 1);
        counts(x, 8, 10, 200, 200, 8, 8, 44, 400);
        x.pattern();
        x.lot();
        x.seat(0, 0);
        x.drop(0);
        counts(x, 7, 10, 200, 0, 7, 1, 200, 0);
        Check.tape(x, "9(9(1;)");
        counts(x, 7, 10, 200, 0, 7, 1, 200, 7);
        x.pattern();
        counts(x, 7, 10, 200, 0, 7, 1, 200, 0);
        x.pattern();
        counts(x, 7, 10, 200, 0, 7, 0, 0, 0);
    }

    private static void promise35FarNumbers() {
        TestFloor x = new TestFloor();
        for (int far : new int[] {MIN, MIN + 1, -1, 8, 9, MAX - 1, MAX}) {
            check.due("count(" + far + ")", x.count(far), BAD);
        }
    }

    /** "LINES as told": in ( ) once; PINS of no LINES: none. */
    private static void promise35LinesAsTold() {
        TestFloor x = new TestFloor();
        x.sheet(0, 0, 0);
        counts(x, 1, 0, 0, 0, 0, 0, 0, 0);
        x.sheet(0, 2, 100);
        counts(x, 1, 0, 0, 0, 0, 0, 0, 0);
        Check.tape(x, "999(100(XX;))2(XX;9())");
        x.pattern();
        counts(x, 1, 0, 0, 0, 0, 2, 2, 0);
        Check.tape(x, "999(9())");
        x.pattern();
        counts(x, 1, 0, 0, 0, 0, 0, 0, 0);
    }
}
