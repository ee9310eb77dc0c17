/** Promises 18 to 22: SEATS, LAW, CHIPS. */
public final class ChipsTest {
    private static final int NONE = -1000000, BAD = -1000001, STATE = -1000002, FULL = -1000003;
    private static final int NULL = -1000011, PLACE = -1000012;
    private static final int MIN = Integer.MIN_VALUE, MAX = Integer.MAX_VALUE;
    private static final Check check = new Check("ChipsTest");

    public static void main(String[] args) {
        promise18Seat();
        promise19Dead();
        promise20Law();
        promise21Chip();
        promise21ChipRefusals();
        promise21ChipsMissingItems();
        promise21Limits();
        promise21Tries();
        promise21TriesFindMissingItems();
        promise22Told();
        check.end();
    }

    private static void promise18Seat() {
        TestFloor x = new TestFloor();
        int[][] bad = {{-1, 0}, {8, 0}, {0, 1001}, {0, -1001}, {MAX, 0}, {0, MIN}, {0, MAX}};
        for (int[] b : bad) {
            check.due("seat(" + b[0] + ", " + b[1] + ")", x.seat(b[0], b[1]), BAD);
        }
        check.due("seat(0, 1000)", x.seat(0, 1000), 0);
        check.due("seat(0, -1000)", x.seat(0, -1000), 1000);
        check.due("seat(0, 5)", x.seat(0, 5), -1000);
        check.due("seat(7, 6)", x.seat(7, 6), 0);
        check.due("seat(7, 0)", x.seat(7, 0), 6);
        x.dead(0);
        check.due("seat(0, 1001) of a DEAD one", x.seat(0, 1001), BAD);
        check.due("count(4): it is DEAD still", x.count(4), 1);
        check.due("seat(0, 9) of a DEAD one", x.seat(0, 9), NONE);
        check.due("count(4): it is DEAD no more", x.count(4), 0);
        check.due("seat(0, 0)", x.seat(0, 0), 9);
    }

    private static void promise19Dead() {
        TestFloor x = new TestFloor();
        for (int seat : new int[] {-1, 8, MAX, MIN}) {
            check.due("dead(" + seat + ")", x.dead(seat), BAD);
        }
        for (int seat = 0; seat < 8; seat++) {
            check.due("dead(" + seat + ")", x.dead(seat), 1);
            check.due("dead(" + seat + ") again", x.dead(seat), 0);
            check.due("count(4)", x.count(4), seat + 1);
        }
        x.seat(3, 0);
        check.due("dead(3) of one that is not any more", x.dead(3), 1);
    }

    private static void promise20Law() {
        TestFloor x = new TestFloor();
        int[][] bad = {{1, 1}, {0x10000, 1}, {-1, 1}, {3, 1}, {MIN, 1}, {2, 0}, {2, 5}, {2, -1}, {2, MAX}};
        for (int[] b : bad) {
            check.due("law(" + b[0] + ", " + b[1] + ")", x.law(b[0], b[1]), BAD);
        }
        check.due("law(0, 1)", x.law(0, 1), 1);
        check.due("law(0xfffe, 4)", x.law(0xfffe, 4), 1);
        check.due("law(0x8000, 2)", x.law(0x8000, 2), 1);
        x.test(1, 1, 1, 3);
        Check.sheetOf(x, 0, 0);
        x.law(8, 3);
        x.law(9, 1);
        x.law(8, 5);
        x.chip(0, 0);
        check.due("told(0, 1): what was refused changes nothing", x.told(0, 1), 3);
        x.law(0, 4);
        x.chip(0, 0);
        check.due("told(1, 1) with no BINS", x.told(1, 1), 1);
    }

    private static void tells(TestFloor x, int chip, int... facts) {
        for (int what = 0; what < facts.length; what++) {
            check.due("told(" + chip + ", " + what + ")", x.told(chip, what), facts[what]);
        }
    }

    private static void promise21Chip() {
        TestFloor x = new TestFloor();
        x.test(0, 10, 1, 1);
        x.test(0, 10, 20, 2);
        x.test(0, 10, 300, 3);
        x.move(2, 0);
        Check.sheetOf(x, 0, 5, 5, 5);
        Check.sheetOf(x, 1, 11, 5, 5);
        Check.sheetOf(x, 2, 11, 11, 5);
        Check.sheetOf(x, 3, 11, -1, 11);
        check.due("chip(0, 0)", x.chip(0, 0), 0);
        check.due("chip(1, 1)", x.chip(1, 1), 1);
        x.move(1, 1);
        check.due("chip(2, 7)", x.chip(2, 7), 2);
        check.due("chip(3, 4)", x.chip(3, 4), 3);
        tells(x, 0, 0, 1, 321, 0, 0, 0);
        tells(x, 1, 1, 1, 301, 1, 1, 1);
        tells(x, 2, 2, 1, 320, 7, 7, 2);
        tells(x, 3, 3, 1, 300, 4, 4, 3);
        check.due("count(2)", x.count(2), 4);
    }

    private static void promise21ChipRefusals() {
        TestFloor x = new TestFloor();
        check.due("chip(0, 0) without TESTS: STATE is ahead of NULL", x.chip(0, 0), STATE);
        check.due("chip(8, 0)", x.chip(8, 0), BAD);
        check.due("chip(-1, 0)", x.chip(-1, 0), BAD);
        check.due("chip(0, 8)", x.chip(0, 8), BAD);
        check.due("chip(0, -1)", x.chip(0, -1), BAD);
        x.test(0, 0, 1, 1);
        check.due("chip(0, 0)", x.chip(0, 0), NULL);
        x.dead(0);
        check.due("chip(0, 0) in a DEAD SEAT", x.chip(0, 0), NULL);
        x.sheet(0, 0, 0);
        check.due("chip(0, 0) without ITEMS in a DEAD SEAT", x.chip(0, 0), 0);
        tells(x, 0, 15, 1, 0, 0, 0, 15);
        check.due("chip(0, 1) without ITEMS", x.chip(0, 1), PLACE);
        check.due("count(2)", x.count(2), 1);
        for (int k = 1; k < 200; k++) {
            check.due("chip(0, 0)", x.chip(0, 0), k);
        }
        check.due("chip(0, 0) when THE LOG is full", x.chip(0, 0), FULL);
        x.lot();
        check.due("chip(0, 1): a lot() empties no LOG", x.chip(0, 1), FULL);
        check.due("count(2)", x.count(2), 200);
        tells(x, 199, 15, 1, 0, 0, 0, 15);
    }

    private static void promise21ChipsMissingItems() {
        TestFloor x = new TestFloor();
        x.test(0, 0, 1, 1);
        x.test(0, 0, 1, 2);
        Check.sheetOf(x, 0, 0);
        check.due("chip(0, 0)", x.chip(0, 0), PLACE);
        x.set(0, 0, 1);
        check.due("chip(0, 0): the second ITEM is not asked for", x.chip(0, 0), 0);
        x.move(1, 0);
        check.due("chip(0, 0): the second ITEM is asked for first", x.chip(0, 0), PLACE);
        check.due("count(2)", x.count(2), 1);
        tells(x, 0, 1, 1, 1, 0, 0, 1);
        check.due("told(1, 0)", x.told(1, 0), BAD);
    }

    private static void promise21Limits() {
        TestFloor x = new TestFloor();
        x.test(-2, 3, 1, 1);
        for (int item = -5; item <= 5; item++) {
            Check.sheetOf(x, 0, item);
            for (int adds = -2; adds <= 2; adds++) {
                x.seat(0, adds);
                int chip = x.chip(0, 0);
                check.due(item + " and " + adds, x.told(chip, 0), item + adds >= -2 && item + adds <= 3 ? 0 : 1);
            }
        }
        x = new TestFloor();
        x.test(MIN, 0, 1, 1);
        Check.sheetOf(x, 0, MAX);
        x.seat(0, 1000);
        x.chip(0, 0);
        check.due("the most and 1000 is no little number", x.told(0, 0), 1);
        x = new TestFloor();
        x.test(0, MAX, 1, 1);
        Check.sheetOf(x, 0, MIN);
        x.seat(0, -1000);
        x.chip(0, 0);
        check.due("the least less 1000 is no great number", x.told(0, 0), 1);
        x = new TestFloor();
        x.test(1, -1, 1, 9);
        for (int item = -2; item <= 2; item++) {
            Check.sheetOf(x, 0, item);
            check.due("an OPEN one is passed by nothing", x.told(x.chip(0, 0), 0), 9);
        }
    }

    private static void promise21Tries() {
        TestFloor x = new TestFloor();
        x.test(0, 0, 1, 1);
        x.test(0, 0, 20, 2);
        Check.sheetOf(x, 0, 0, 1);
        x.seat(6, 1);
        x.seat(0, -1);
        x.seat(1, 3);
        x.seat(2, 4);
        x.law(6, 4);
        // SEAT 6: 1 2 gives BIN 1; SEAT 7: 0 1 gives BIN 2; SEAT 0: -1 gives BIN 1; SEAT 1: 3 gives BIN 1
        x.chip(0, 6);
        tells(x, 0, 1, 4, 1 + 21 + 1 + 1, 1, 6, 1);
        x.law(2, 4);
        x.chip(0, 6);
        tells(x, 1, 2, 2, 22, 7, 6, 1);
        x.law(4, 4);
        x.chip(0, 6);
        tells(x, 2, 1, 1, 1, 6, 6, 1);
        x.chip(0, 7);
        tells(x, 3, 1, 2, 22, 0, 7, 2);
        x.dead(0);
        x.law(0x8004, 3);
        x.chip(0, 7);
        tells(x, 4, 1, 3, 22, 1, 7, 2);
        x.law(0x8004, 2);
        x.chip(0, 7);
        tells(x, 5, 15, 2, 21, 0, 7, 2);
        x.set(0, 1, 0);
        x.chip(0, 7);
        tells(x, 6, 0, 1, 21, 7, 7, 0);
        x.law(0x8002, 2);
        x.seat(1, 0);
        x.chip(0, 0);
        tells(x, 7, 0, 2, 21, 1, 0, 15);
        x.law(0xfffe, 4);
        x.dead(1);
        x.dead(2);
        x.dead(3);
        x.chip(0, 0);
        tells(x, 8, 15, 4, 0, 3, 0, 15);
    }

    private static void promise21TriesFindMissingItems() {
        TestFloor x = new TestFloor();
        x.test(0, 0, 1, 1);
        x.test(0, 0, 1, 2);
        Check.sheetOf(x, 0, 0);
        x.seat(0, 1);
        x.law(2, 2);
        check.due("chip(0, 0): the second try asks for the second ITEM", x.chip(0, 0), PLACE);
        check.due("status()", x.status(), 2);
        check.due("count(2)", x.count(2), 0);
        check.due("count(3)", x.count(3), 0);
        check.due("bins(1)", x.bins(1), 0);
        x.law(2, 1);
        check.due("chip(0, 0)", x.chip(0, 0), 0);
        tells(x, 0, 1, 1, 1, 0, 0, 1);
    }

    private static void promise22Told() {
        TestFloor x = new TestFloor();
        x.test(0, 0, 1, 1);
        Check.sheetOf(x, 0, 0);
        x.chip(0, 5);
        tells(x, 0, 0, 1, 1, 5, 5, 0);
        int[][] bad = {{-1, 0}, {1, 0}, {0, -1}, {0, 6}, {200, 0}, {MAX, 0}, {0, MAX}, {MIN, MIN}};
        for (int[] b : bad) {
            check.due("told(" + b[0] + ", " + b[1] + ")", x.told(b[0], b[1]), BAD);
        }
        x.lot();
        tells(x, 0, 0, 1, 1, 5, 5, 0);
    }
}
