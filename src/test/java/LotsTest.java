/** Promises 31 to 35: LOTS, HELD, CHANCE, count. */
public final class LotsTest {
    private static final int BAD = -1000001, STATE = -1000002;
    private static final int MIN = Integer.MIN_VALUE, MAX = Integer.MAX_VALUE;
    private static final Check check = new Check("LotsTest");

    public static void main(String[] args) {
        promise31Lot();
        promise32Bins();
        promise33Held();
        promise33HeldBySharesOfAHundred();
        promise34Chance();
        promise34ChanceOfManyChips();
        promise34ChanceByTryingAll();
        promise34ChanceAfterTries();
        promise35Count();
        check.end();
    }

    /** SHEET 0 passes; SHEET k gives BIN k (1 to 4). */
    private static TestFloor floor() {
        TestFloor x = new TestFloor();
        for (int test = 0; test < 4; test++) {
            x.test(0, 0, 1, test + 1);
        }
        for (int sheet = 0; sheet < 5; sheet++) {
            x.sheet(sheet, 0, 4);
            if (sheet > 0) {
                x.set(sheet, sheet - 1, 1);
            }
        }
        return x;
    }

    private static void chips(TestFloor x, int sheet, int seat, int times) {
        for (int k = 0; k < times; k++) {
            x.chip(sheet, seat);
        }
    }

    private static void promise31Lot() {
        TestFloor x = floor();
        check.due("lot()", x.lot(), 0);
        chips(x, 0, 0, 3);
        check.due("count(3)", x.count(3), 3);
        check.due("lot()", x.lot(), 3);
        check.due("count(3)", x.count(3), 0);
        check.due("count(2)", x.count(2), 3);
        chips(x, 1, 0, 2);
        check.due("chip(0, 0)", x.chip(0, 0), 5);
        check.due("lot()", x.lot(), 3);
        check.due("lot()", x.lot(), 0);
    }

    private static void promise32Bins() {
        TestFloor x = floor();
        for (int bin : new int[] {-1, 16, MAX, MIN}) {
            check.due("bins(" + bin + ")", x.bins(bin), BAD);
        }
        chips(x, 0, 0, 5);
        chips(x, 2, 0, 3);
        chips(x, 4, 0, 1);
        x.dead(1);
        chips(x, 0, 1, 2);
        int[] due = {5, 0, 3, 0, 1, 0, 0, 0, 0, 0, 0, 0, 0, 0, 0, 2};
        for (int bin = 0; bin < 16; bin++) {
            check.due("bins(" + bin + ")", x.bins(bin), due[bin]);
        }
        x.lot();
        for (int bin = 0; bin < 16; bin++) {
            check.due("bins(" + bin + ") of the next LOT", x.bins(bin), 0);
        }
        chips(x, 2, 0, 1);
        check.due("bins(2) of the next LOT", x.bins(2), 1);
        check.due("bins(0) of the next LOT", x.bins(0), 0);
    }

    private static void promise33Held() {
        TestFloor x = floor();
        int[][] bad = {{-1, 0}, {101, 0}, {0, -1}, {MAX, 0}, {MIN, 0}, {0, MIN}};
        for (int[] b : bad) {
            check.due("held(" + b[0] + ", " + b[1] + ")", x.held(b[0], b[1]), BAD);
        }
        check.due("held(0, 0)", x.held(0, 0), STATE);
        chips(x, 0, 0, 1);
        check.due("held(100, 0) of one that is good", x.held(100, 0), 0);
        chips(x, 1, 0, 1);
        check.due("held(0, 0)", x.held(0, 0), 1);
        check.due("held(0, 1)", x.held(0, 1), 0);
        check.due("held(50, 1)", x.held(50, 1), 0);
        check.due("held(51, 1)", x.held(51, 1), 1);
        check.due("held(0, MAX)", x.held(0, MAX), 0);
        check.due("held(100, MAX)", x.held(100, MAX), 1);
        x.dead(1);
        chips(x, 0, 1, 3);
        check.due("held(0, 2): BIN 15 counts", x.held(0, 2), 1);
        check.due("held(0, 3)", x.held(0, 3), 0);
        x.lot();
        check.due("held(0, 0) of a LOT without CHIPS", x.held(0, 0), STATE);
        check.due("held(0, -1): BAD is ahead of STATE", x.held(0, -1), BAD);
        chips(x, 0, 0, 9);
        check.due("held(100, 0): 9 of BIN 0 are not too many", x.held(100, 0), 0);
    }

    private static void promise33HeldBySharesOfAHundred() {
        TestFloor x = floor();
        chips(x, 0, 0, 2);
        chips(x, 1, 0, 1);
        // 66 and two thirds of 100
        check.due("held(66, 1)", x.held(66, 1), 0);
        check.due("held(67, 1)", x.held(67, 1), 1);
        chips(x, 0, 0, 131);
        chips(x, 1, 0, 66);
        check.due("held(66, 67)", x.held(66, 67), 0);
        check.due("held(67, 67)", x.held(67, 67), 1);
        check.due("held(66, 66)", x.held(66, 66), 1);
    }

    private static void chances(TestFloor x, int seat, long so, long all) {
        check.due("chance(" + seat + ", 0)", x.chance(seat, 0), so);
        check.due("chance(" + seat + ", 1)", x.chance(seat, 1), all);
    }

    private static void promise34Chance() {
        TestFloor x = floor();
        int[][] bad = {{-1, 0}, {8, 0}, {0, -1}, {0, 2}, {MAX, 0}, {0, MIN}};
        for (int[] b : bad) {
            check.due("chance(" + b[0] + ", " + b[1] + ")", x.chance(b[0], b[1]), BAD);
        }
        chances(x, 0, STATE, STATE);
        chips(x, 0, 0, 1);
        chips(x, 1, 0, 2);
        chips(x, 0, 1, 4);
        // N 7, P 5; n 3, a 1: C(5,0) C(2,3) and C(5,1) C(2,2)
        chances(x, 0, 5, 35);
        // n 4, a 4: all
        chances(x, 1, 35, 35);
        chances(x, 2, STATE, STATE);
        chips(x, 2, 2, 1);
        // N 8, P 5; n 1, a 0
        chances(x, 2, 3, 8);
        // n 3, a 1: C(5,0) C(3,3) and C(5,1) C(3,2)
        chances(x, 0, 16, 56);
        x.lot();
        chances(x, 0, STATE, STATE);
        chips(x, 1, 0, 2);
        chances(x, 0, 1, 1);
    }

    private static void promise34ChanceOfManyChips() {
        TestFloor x = floor();
        chips(x, 1, 0, 20);
        chips(x, 0, 1, 20);
        chances(x, 0, 1, 137846528820L);
        chances(x, 1, 137846528820L, 137846528820L);
        chips(x, 0, 1, 1);
        chances(x, 0, STATE, STATE);
        x.lot();
        chips(x, 0, 0, 10);
        chips(x, 1, 0, 10);
        chips(x, 0, 1, 10);
        chips(x, 1, 1, 10);
        // the half of all, and half of those that have just 10
        chances(x, 0, (137846528820L + 184756L * 184756L) / 2, 137846528820L);
    }

    /** All sets of n of N CHIPS, counted one by one. */
    private static void promise34ChanceByTryingAll() {
        Dice dice = new Dice(34);
        for (int round = 0; round < 60; round++) {
            TestFloor x = floor();
            int n = 1 + dice.below(11);
            int passed = 0;
            int seated = 0;
            int both = 0;
            for (int k = 0; k < n; k++) {
                int sheet = dice.below(2);
                int seat = dice.below(2);
                x.chip(sheet, seat);
                passed |= (1 - sheet) << k;
                seated |= (1 - seat) << k;
                both += (1 - sheet) * (1 - seat);
            }
            long so = 0;
            long all = 0;
            for (int set = 0; set < 1 << n; set++) {
                if (Integer.bitCount(set) == Integer.bitCount(seated)) {
                    all++;
                    so += Integer.bitCount(set & passed) <= both ? 1 : 0;
                }
            }
            chances(x, 0, seated == 0 ? STATE : so, seated == 0 ? STATE : all);
        }
    }

    private static void promise34ChanceAfterTries() {
        TestFloor x = floor();
        x.seat(0, 1);
        x.law(2, 2);
        chips(x, 0, 0, 2);
        chips(x, 0, 1, 1);
        chips(x, 1, 1, 1);
        // SEAT 0 fails its CHIPS, SEAT 1 passes them: first TRIED in SEAT 0, and BIN 0 at last
        check.due("told(0, 3)", x.told(0, 3), 1);
        check.due("bins(0)", x.bins(0), 3);
        // N 4, P 3; n 2, a 2
        chances(x, 0, 6, 6);
        // n 2, a 1: C(3,0) C(1,2) and C(3,1) C(1,1)
        chances(x, 1, 3, 6);
        chances(x, 2, STATE, STATE);
    }

    private static void promise35Count() {
        TestFloor x = floor();
        for (int what : new int[] {-1, 8, MAX, MIN}) {
            check.due("count(" + what + ")", x.count(what), BAD);
        }
        chips(x, 0, 0, 4);
        x.lot();
        chips(x, 0, 0, 3);
        x.dead(0);
        x.dead(7);
        Check.tape(x, "3(01L;2(XXX;))111;");
        x.pattern();
        Check.tape(x, "1;2");
        int[] due = {5, 4, 7, 3, 2, 3, 3, 3};
        for (int what = 0; what < 8; what++) {
            check.due("count(" + what + ")", x.count(what), due[what]);
        }
        x.drop(2);
        check.due("count(0)", x.count(0), 4);
        x.seat(7, 0);
        check.due("count(4)", x.count(4), 1);
    }
}
