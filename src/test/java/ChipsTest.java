/** Promises 18 to 22: SEATS, LAW, CHIPS. */
public final class ChipsTest {
    private static final int NONE = -1000000, BAD = -1000001, STATE = -1000002, FULL = -1000003;
    private static final int NULL = -1000011, PLACE = -1000012;
    private static final int MIN = Integer.MIN_VALUE, MAX = Integer.MAX_VALUE;
    private static final Check check = new Check("ChipsTest");

    public static void main(String[] args) {
        promise18Seat();
        promise18LeastAndMostAreAdded();
        promise18SeatsOfTheirOwn();
        promise18RefusedLeavesTheSeat();
        promise19Dead();
        promise19RefusedLeavesTheSeats();
        promise20Law();
        promise20EachBitOfTheSet();
        promise20EachNumberOfTries();
        promise21Chip();
        promise21ChipRefusals();
        promise21FirstRefusalThatFits();
        promise21ChipsMissingItems();
        promise21LastItem();
        promise21Limits();
        promise21LimitsOfAllInts();
        promise21FirstTestThatIsNotPassed();
        promise21DeadSeat();
        promise21Tries();
        promise21NextSeatBehindSeven();
        promise21TriesEndAtABinNotInTheSet();
        promise21TriesFindMissingItems();
        promise21LogIsFull();
        promise22Told();
        promise22FirstAndLastChip();
        promise22MostTime();
        promise22ToldStays();
        check.end();
    }

    private static void promise18Seat() {
        TestFloor x = new TestFloor();
        int[][] bad = {{-1, 0}, {8, 0}, {0, 1001}, {0, -1001}, {MAX, 0}, {0, MIN}, {0, MAX}};
        for (int[] b : bad) {
            check.due("seat(" + b[0] + ", " + b[1] + ")", x.seat(b[0], b[1]), BAD);
        }
        check.due("seat(0, 1000)", x.seat(0, 1000), 0);
        check.due("seat(0, -1000)", x.seat(0, -1000), 1000);
        check.due("seat(0, 5)", x.seat(0, 5), -1000);
        check.due("seat(7, 6)", x.seat(7, 6), 0);
        check.due("seat(7, 0)", x.seat(7, 0), 6);
        x.dead(0);
        check.due("seat(0, 1001) of a DEAD one", x.seat(0, 1001), BAD);
        check.due("count(4): it is DEAD still", x.count(4), 1);
        check.due("seat(0, 9) of a DEAD one", x.seat(0, 9), NONE);
        check.due("count(4): it is DEAD no more", x.count(4), 0);
        check.due("seat(0, 0)", x.seat(0, 0), 9);
    }

    /** "-1000 to 1000": the last ones that go are added as they are told, the ones beyond are BAD. */
    private static void promise18LeastAndMostAreAdded() {
        for (int adds : new int[] {-1000, -999, -1, 0, 1, 999, 1000}) {
            TestFloor x = new TestFloor();
            x.test(5 + adds, 5 + adds, 1, 1);
            Check.sheetOf(x, 0, 5);
            Check.sheetOf(x, 1, 4);
            Check.sheetOf(x, 2, 6);
            check.due("seat(7, " + adds + ")", x.seat(7, adds), 0);
            for (int sheet = 0; sheet < 3; sheet++) {
                x.chip(sheet, 7);
                check.due("told(" + sheet + ", 0), when " + adds + " is added", x.told(sheet, 0), sheet == 0 ? 0 : 1);
            }
            check.due("seat(7, 0)", x.seat(7, 0), adds);
        }
        TestFloor x = new TestFloor();
        for (int far : new int[] {MIN, MIN + 1, -1000000, -1002, -1001, 1001, 1002, MAX - 1, MAX}) {
            check.due("seat(0, " + far + ")", x.seat(0, far), BAD);
        }
        for (int far : new int[] {MIN, MIN + 1, -1, 8, 9, MAX - 1, MAX}) {
            check.due("seat(" + far + ", 0)", x.seat(far, 0), BAD);
        }
    }

    private static void promise18SeatsOfTheirOwn() {
        TestFloor x = new TestFloor();
        for (int seat = 0; seat < 8; seat++) {
            check.due("seat(" + seat + ", " + (100 + seat) + ")", x.seat(seat, 100 + seat), 0);
        }
        x.dead(3);
        for (int seat = 7; seat >= 0; seat--) {
            check.due("seat(" + seat + ", 0)", x.seat(seat, 0), seat == 3 ? NONE : 100 + seat);
        }
        check.due("seat(3, 0): DEAD no more, and it adds what was told then", x.seat(3, 0), 0);
    }

    /** "What is refused .. changes nothing": what the SEAT adds, and whether it is DEAD. */
    private static void promise18RefusedLeavesTheSeat() {
        TestFloor x = new TestFloor();
        x.seat(0, 7);
        x.seat(0, 1001);
        x.seat(0, -1001);
        x.seat(8, 5);
        x.seat(-1, 5);
        check.due("seat(0, 7)", x.seat(0, 7), 7);
        x.dead(0);
        x.seat(0, 1001);
        check.due("count(4)", x.count(4), 1);
        check.due("dead(0)", x.dead(0), 0);
        check.due("seat(0, 7) of a DEAD one", x.seat(0, 7), NONE);
        check.due("seat(7, 0)", x.seat(7, 0), 0);
    }

    private static void promise19Dead() {
        TestFloor x = new TestFloor();
        for (int seat : new int[] {-1, 8, MAX, MIN}) {
            check.due("dead(" + seat + ")", x.dead(seat), BAD);
        }
        for (int seat = 0; seat < 8; seat++) {
            check.due("dead(" + seat + ")", x.dead(seat), 1);
            check.due("dead(" + seat + ") again", x.dead(seat), 0);
            check.due("count(4)", x.count(4), seat + 1);
        }
        x.seat(3, 0);
        check.due("dead(3) of one that is not any more", x.dead(3), 1);
    }

    private static void promise19RefusedLeavesTheSeats() {
        TestFloor x = new TestFloor();
        for (int seat : new int[] {MIN, MIN + 1, -1, 8, 9, MAX - 1, MAX}) {
            check.due("dead(" + seat + ")", x.dead(seat), BAD);
        }
        check.due("count(4)", x.count(4), 0);
        x.dead(7);
        x.dead(8);
        x.dead(-1);
        check.due("count(4)", x.count(4), 1);
        check.due("dead(7): it was", x.dead(7), 0);
        check.due("dead(0): the others are not", x.dead(0), 1);
    }

    private static void promise20Law() {
        TestFloor x = new TestFloor();
        int[][] bad = {{1, 1}, {0x10000, 1}, {-1, 1}, {3, 1}, {MIN, 1}, {2, 0}, {2, 5}, {2, -1}, {2, MAX}};
        for (int[] b : bad) {
            check.due("law(" + b[0] + ", " + b[1] + ")", x.law(b[0], b[1]), BAD);
        }
        check.due("law(0, 1)", x.law(0, 1), 1);
        check.due("law(0xfffe, 4)", x.law(0xfffe, 4), 1);
        check.due("law(0x8000, 2)", x.law(0x8000, 2), 1);
        x.test(1, 1, 1, 3);
        Check.sheetOf(x, 0, 0);
        x.law(8, 3);
        x.law(9, 1);
        x.law(8, 5);
        x.chip(0, 0);
        check.due("told(0, 1): what was refused changes nothing", x.told(0, 1), 3);
        x.law(0, 4);
        x.chip(0, 0);
        check.due("told(1, 1) with no BINS", x.told(1, 1), 1);
    }

    /** "a set of BINS (bits 1 to 15)": each of them alone, and all the others; "BAD: the set (other bits)". */
    private static void promise20EachBitOfTheSet() {
        for (int bin = 1; bin <= 15; bin++) {
            TestFloor x = new TestFloor();
            x.test(1, 1, 1, bin);
            x.sheet(0, 0, 1);
            check.due("law of BIN " + bin, x.law(1 << bin, 2), 1);
            x.chip(0, 0);
            check.due("told(0, 1) of BIN " + bin + " in the set", x.told(0, 1), 2);
            check.due("law of all but BIN " + bin, x.law(0xfffe & ~(1 << bin), 2), 1);
            x.chip(0, 0);
            check.due("told(1, 1) of BIN " + bin + " not in the set", x.told(1, 1), 1);
        }
        TestFloor x = new TestFloor();
        x.test(1, 1, 1, 2);
        x.sheet(0, 0, 1);
        x.law(4, 3);
        for (int bit = 0; bit < 32; bit++) {
            if (bit < 1 || bit > 15) {
                check.due("law of bit " + bit, x.law(1 << bit, 1), BAD);
                check.due("law of bit " + bit + " and 2", x.law(1 << bit | 4, 1), BAD);
            }
        }
        for (int set : new int[] {MIN, MIN + 2, -2, -1, 0xffff, 0x10000, 0x1fffe, MAX - 1, MAX}) {
            check.due("law(" + set + ", 1)", x.law(set, 1), BAD);
        }
        x.chip(0, 0);
        check.due("told(0, 1): the LAW as it was", x.told(0, 1), 3);
    }

    /** "a number of tries 1 to 4", "TRIED fewer times than told". */
    private static void promise20EachNumberOfTries() {
        TestFloor x = new TestFloor();
        x.test(1, 1, 1, 2);
        x.sheet(0, 0, 1);
        for (int tries = 1; tries <= 4; tries++) {
            check.due("law(4, " + tries + ")", x.law(4, tries), 1);
            x.chip(0, 0);
            check.due("told(1) by " + tries, x.told(tries - 1, 1), tries);
            check.due("told(2) by " + tries, x.told(tries - 1, 2), tries);
        }
        for (int far : new int[] {MIN, MIN + 1, -1, 0, 5, 6, MAX - 1, MAX}) {
            check.due("law(4, " + far + ")", x.law(4, far), BAD);
            check.due("law(0, " + far + ")", x.law(0, far), BAD);
        }
        x.chip(0, 0);
        check.due("told(4, 1): the LAW as it was", x.told(4, 1), 4);
        check.due("law(0, 4): no BINS", x.law(0, 4), 1);
        x.chip(0, 0);
        check.due("told(5, 1)", x.told(5, 1), 1);
    }

    private static void tells(TestFloor x, int chip, int... facts) {
        for (int what = 0; what < facts.length; what++) {
            check.due("told(" + chip + ", " + what + ")", x.told(chip, what), facts[what]);
        }
    }

    private static void promise21Chip() {
        TestFloor x = new TestFloor();
        x.test(0, 10, 1, 1);
        x.test(0, 10, 20, 2);
        x.test(0, 10, 300, 3);
        x.move(2, 0);
        Check.sheetOf(x, 0, 5, 5, 5);
        Check.sheetOf(x, 1, 11, 5, 5);
        Check.sheetOf(x, 2, 11, 11, 5);
        Check.sheetOf(x, 3, 11, -1, 11);
        check.due("chip(0, 0)", x.chip(0, 0), 0);
        check.due("chip(1, 1)", x.chip(1, 1), 1);
        x.move(1, 1);
        check.due("chip(2, 7)", x.chip(2, 7), 2);
        check.due("chip(3, 4)", x.chip(3, 4), 3);
        tells(x, 0, 0, 1, 321, 0, 0, 0);
        tells(x, 1, 1, 1, 301, 1, 1, 1);
        tells(x, 2, 2, 1, 320, 7, 7, 2);
        tells(x, 3, 3, 1, 300, 4, 4, 3);
        check.due("count(2)", x.count(2), 4);
    }

    private static void promise21ChipRefusals() {
        TestFloor x = new TestFloor();
        check.due("chip(0, 0) without TESTS: STATE is ahead of NULL", x.chip(0, 0), STATE);
        check.due("chip(8, 0)", x.chip(8, 0), BAD);
        check.due("chip(-1, 0)", x.chip(-1, 0), BAD);
        check.due("chip(0, 8)", x.chip(0, 8), BAD);
        check.due("chip(0, -1)", x.chip(0, -1), BAD);
        x.test(0, 0, 1, 1);
        check.due("chip(0, 0)", x.chip(0, 0), NULL);
        x.dead(0);
        check.due("chip(0, 0) in a DEAD SEAT", x.chip(0, 0), NULL);
        x.sheet(0, 0, 0);
        check.due("chip(0, 0) without ITEMS in a DEAD SEAT", x.chip(0, 0), 0);
        tells(x, 0, 15, 1, 0, 0, 0, 15);
        check.due("chip(0, 1) without ITEMS", x.chip(0, 1), PLACE);
        check.due("count(2)", x.count(2), 1);
        for (int k = 1; k < 200; k++) {
            check.due("chip(0, 0)", x.chip(0, 0), k);
        }
        check.due("chip(0, 0) when THE LOG is full", x.chip(0, 0), FULL);
        x.lot();
        check.due("chip(0, 1): a lot() empties no LOG", x.chip(0, 1), FULL);
        check.due("count(2)", x.count(2), 200);
        tells(x, 199, 15, 1, 0, 0, 0, 15);
    }

    /** "BAD: SHEET, SEAT; STATE: no TESTS; FULL; NULL ..; PLACE", in this order. */
    private static void promise21FirstRefusalThatFits() {
        TestFloor x = new TestFloor();
        x.sheet(0, 2, 0);
        x.dead(7);
        for (int far : new int[] {MIN, MIN + 1, -1, 8, 9, MAX - 1, MAX}) {
            check.due("chip(" + far + ", 0)", x.chip(far, 0), BAD);
            check.due("chip(0, " + far + ")", x.chip(0, far), BAD);
        }
        check.due("chip(0, 0): STATE is ahead of PLACE", x.chip(0, 0), STATE);
        check.due("chip(0, 7): STATE in a DEAD SEAT, too", x.chip(0, 7), STATE);
        check.due("chip(1, 7): STATE is ahead of NULL", x.chip(1, 7), STATE);
        x.test(0, 0, 1, 1);
        check.due("chip(1, 0)", x.chip(1, 0), NULL);
        check.due("chip(1, 7): in a DEAD SEAT, too", x.chip(1, 7), NULL);
        check.due("chip(0, 0)", x.chip(0, 0), PLACE);
        for (int far : new int[] {MIN, -1, 8, MAX}) {
            check.due("chip(" + far + ", 0)", x.chip(far, 0), BAD);
            check.due("chip(1, " + far + "): BAD is ahead of NULL", x.chip(1, far), BAD);
        }
        check.due("count(2)", x.count(2), 0);
        for (int k = 0; k < 200; k++) {
            check.due("chip(0, 7)", x.chip(0, 7), k);
        }
        check.due("chip(0, 7)", x.chip(0, 7), FULL);
        check.due("chip(1, 7): FULL is ahead of NULL", x.chip(1, 7), FULL);
        check.due("chip(0, 0): FULL is ahead of PLACE", x.chip(0, 0), FULL);
        check.due("chip(8, 0): BAD is ahead of FULL", x.chip(8, 0), BAD);
        check.due("chip(0, 8): BAD is ahead of FULL", x.chip(0, 8), BAD);
        check.due("count(2)", x.count(2), 200);
    }

    private static void promise21ChipsMissingItems() {
        TestFloor x = new TestFloor();
        x.test(0, 0, 1, 1);
        x.test(0, 0, 1, 2);
        Check.sheetOf(x, 0, 0);
        check.due("chip(0, 0)", x.chip(0, 0), PLACE);
        x.set(0, 0, 1);
        check.due("chip(0, 0): the second ITEM is not asked for", x.chip(0, 0), 0);
        x.move(1, 0);
        check.due("chip(0, 0): the second ITEM is asked for first", x.chip(0, 0), PLACE);
        check.due("count(2)", x.count(2), 1);
        tells(x, 0, 1, 1, 1, 0, 0, 1);
        check.due("told(1, 0)", x.told(1, 0), BAD);
    }

    /** "ITEM k is what TEST k measures": ten TESTS ask for ten ITEMS, and no more. */
    private static void promise21LastItem() {
        TestFloor x = new TestFloor();
        for (int k = 0; k < 10; k++) {
            x.test(0, 0, 1, 1 + k);
        }
        for (int n = 0; n < 10; n++) {
            x.sheet(0, 0, n);
            check.due("chip of " + n + " ITEMS", x.chip(0, 0), PLACE);
        }
        x.sheet(0, 0, 10);
        check.due("chip of 10 ITEMS", x.chip(0, 0), 0);
        tells(x, 0, 0, 1, 10, 0, 0, 0);
        for (int k = 0; k < 10; k++) {
            x.sheet(0, 0, k + 1);
            x.set(0, k, 1);
            check.due("chip that fails at TEST " + k, x.chip(0, 0), k + 1);
            tells(x, k + 1, k + 1, 1, k + 1, 0, 0, k + 1);
        }
        x.sheet(0, 0, 100);
        for (int i = 10; i < 100; i++) {
            x.set(0, i, 1);
        }
        check.due("chip of 100 ITEMS", x.chip(0, 0), 11);
        tells(x, 11, 0, 1, 10, 0, 0, 0);
    }

    private static void promise21Limits() {
        TestFloor x = new TestFloor();
        x.test(-2, 3, 1, 1);
        for (int item = -5; item <= 5; item++) {
            Check.sheetOf(x, 0, item);
            for (int adds = -2; adds <= 2; adds++) {
                x.seat(0, adds);
                int chip = x.chip(0, 0);
                check.due(item + " and " + adds, x.told(chip, 0), item + adds >= -2 && item + adds <= 3 ? 0 : 1);
            }
        }
        x = new TestFloor();
        x.test(MIN, 0, 1, 1);
        Check.sheetOf(x, 0, MAX);
        x.seat(0, 1000);
        x.chip(0, 0);
        check.due("the most and 1000 is no little number", x.told(0, 0), 1);
        x = new TestFloor();
        x.test(0, MAX, 1, 1);
        Check.sheetOf(x, 0, MIN);
        x.seat(0, -1000);
        x.chip(0, 0);
        check.due("the least less 1000 is no great number", x.told(0, 0), 1);
        x = new TestFloor();
        x.test(1, -1, 1, 9);
        for (int item = -2; item <= 2; item++) {
            Check.sheetOf(x, 0, item);
            check.due("an OPEN one is passed by nothing", x.told(x.chip(0, 0), 0), 9);
        }
    }

    /** "not from its low to its high limit", where these, and ITEMS, are the least and the greatest ints, too. */
    private static void promise21LimitsOfAllInts() {
        int[] ends = {MIN, MIN + 1, -1000, -1, 0, 1, 1000, MAX - 1, MAX};
        for (int adds : new int[] {-1000, -1, 0, 1, 1000}) {
            for (int low : ends) {
                for (int high : ends) {
                    TestFloor x = new TestFloor();
                    x.test(low, high, 1, 1);
                    x.seat(0, adds);
                    x.sheet(0, 2, 1);
                    for (int item : ends) {
                        x.set(0, 0, item);
                        long sum = (long) item + adds;
                        String call = sum + " from " + low + " to " + high;
                        check.due(call, x.told(x.chip(0, 0), 0), low <= sum && sum <= high ? 0 : 1);
                    }
                }
            }
        }
    }

    /** "the first whose ITEM .. is not from its low to its high limit gives its BIN, and that is all; else BIN 0". */
    private static void promise21FirstTestThatIsNotPassed() {
        TestFloor x = new TestFloor();
        for (int k = 0; k < 10; k++) {
            x.test(0, 0, 1 << k, 15 - k);
        }
        x.sheet(0, 0, 10);
        int time = 0;
        for (int k = 0; k < 10; k++) {
            time += 1 << k;
            x.set(0, k, 1);
            int chip = x.chip(0, 0);
            tells(x, chip, 15 - k, 1, time, 0, 0, 15 - k);
            // In SEAT 1 all fail: the first one of THE FLOW alone gives its BIN, and its time.
            x.seat(1, 1);
            x.move(k, 0);
            chip = x.chip(0, 1);
            tells(x, chip, 15 - k, 1, 1 << k, 1, 1, 15 - k);
            x.move(k, k);
            x.set(0, k, 0);
        }
        x.chip(0, 0);
        tells(x, 20, 0, 1, 1023, 0, 0, 0);
    }

    /** "In a DEAD SEAT: BIN 15, no time", whatever the ITEMS are and whether they are there. */
    private static void promise21DeadSeat() {
        TestFloor x = new TestFloor();
        x.test(0, 0, 999, 1);
        x.sheet(0, 0, 0);
        Check.sheetOf(x, 1, 0);
        Check.sheetOf(x, 2, 1);
        for (int seat = 0; seat < 8; seat++) {
            x.dead(seat);
            for (int sheet = 0; sheet < 3; sheet++) {
                int chip = x.chip(sheet, seat);
                tells(x, chip, 15, 1, 0, seat, seat, 15);
            }
        }
        x.seat(5, 0);
        tells(x, x.chip(1, 5), 0, 1, 999, 5, 5, 0);
    }

    private static void promise21Tries() {
        TestFloor x = new TestFloor();
        x.test(0, 0, 1, 1);
        x.test(0, 0, 20, 2);
        Check.sheetOf(x, 0, 0, 1);
        x.seat(6, 1);
        x.seat(0, -1);
        x.seat(1, 3);
        x.seat(2, 4);
        x.law(6, 4);
        // SEAT 6: 1 2 gives BIN 1; SEAT 7: 0 1 gives BIN 2; SEAT 0: -1 gives BIN 1; SEAT 1: 3 gives BIN 1
        x.chip(0, 6);
        tells(x, 0, 1, 4, 1 + 21 + 1 + 1, 1, 6, 1);
        x.law(2, 4);
        x.chip(0, 6);
        tells(x, 1, 2, 2, 22, 7, 6, 1);
        x.law(4, 4);
        x.chip(0, 6);
        tells(x, 2, 1, 1, 1, 6, 6, 1);
        x.chip(0, 7);
        tells(x, 3, 1, 2, 22, 0, 7, 2);
        x.dead(0);
        x.law(0x8004, 3);
        x.chip(0, 7);
        tells(x, 4, 1, 3, 22, 1, 7, 2);
        x.law(0x8004, 2);
        x.chip(0, 7);
        tells(x, 5, 15, 2, 21, 0, 7, 2);
        x.set(0, 1, 0);
        x.chip(0, 7);
        tells(x, 6, 0, 1, 21, 7, 7, 0);
        x.law(0x8002, 2);
        x.seat(1, 0);
        x.chip(0, 0);
        tells(x, 7, 0, 2, 21, 1, 0, 15);
        x.law(0xfffe, 4);
        x.dead(1);
        x.dead(2);
        x.dead(3);
        x.chip(0, 0);
        tells(x, 8, 15, 4, 0, 3, 0, 15);
    }

    /** "in the next SEAT (behind 7: 0)", from each SEAT on. */
    private static void promise21NextSeatBehindSeven() {
        TestFloor x = new TestFloor();
        x.test(1, 1, 1, 2);
        x.sheet(0, 0, 1);
        for (int tries = 1; tries <= 4; tries++) {
            x.law(4, tries);
            for (int seat = 0; seat < 8; seat++) {
                int chip = x.chip(0, seat);
                tells(x, chip, 2, tries, tries, (seat + tries - 1) % 8, seat, 2);
            }
        }
        // SEAT 0 is the only one in which it passes.
        x.seat(0, 1);
        for (int seat = 5; seat < 8; seat++) {
            int chip = x.chip(0, seat);
            tells(x, chip, 0, 9 - seat, 9 - seat, 0, seat, 2);
        }
        int chip = x.chip(0, 4);
        tells(x, chip, 2, 4, 4, 7, 4, 2);
    }

    /** "as long as its BIN is in the set": another one, also BIN 0, ends it; "Its last BIN is the one it has". */
    private static void promise21TriesEndAtABinNotInTheSet() {
        TestFloor x = new TestFloor();
        x.test(0, 9, 1, 1);
        x.test(0, 5, 1, 2);
        Check.sheetOf(x, 0, 7, 7);
        x.law(0xfffe, 4);
        tells(x, x.chip(0, 0), 2, 4, 8, 3, 0, 2);
        x.seat(2, -2);
        tells(x, x.chip(0, 0), 0, 3, 6, 2, 0, 2);
        x.seat(1, 5);
        x.law(4, 4);
        tells(x, x.chip(0, 0), 1, 2, 3, 1, 0, 2);
        x.dead(1);
        tells(x, x.chip(0, 0), 15, 2, 2, 1, 0, 2);
        x.law(0x8004, 4);
        tells(x, x.chip(0, 0), 0, 3, 4, 2, 0, 2);
        x.law(0x8000, 4);
        tells(x, x.chip(0, 0), 2, 1, 2, 0, 0, 2);
        tells(x, x.chip(0, 1), 0, 2, 2, 2, 1, 15);
    }

    private static void promise21TriesFindMissingItems() {
        TestFloor x = new TestFloor();
        x.test(0, 0, 1, 1);
        x.test(0, 0, 1, 2);
        Check.sheetOf(x, 0, 0);
        x.seat(0, 1);
        x.law(2, 2);
        check.due("chip(0, 0): the second try asks for the second ITEM", x.chip(0, 0), PLACE);
        check.due("status()", x.status(), 2);
        check.due("count(2)", x.count(2), 0);
        check.due("count(3)", x.count(3), 0);
        check.due("bins(1)", x.bins(1), 0);
        x.law(2, 1);
        check.due("chip(0, 0)", x.chip(0, 0), 0);
        tells(x, 0, 1, 1, 1, 0, 0, 1);
    }

    /** "Each CHIP has a number in THE LOG, 200 at most": 0 to 199, and those in it stay as they are. */
    private static void promise21LogIsFull() {
        TestFloor x = new TestFloor();
        x.test(0, 0, 3, 2);
        Check.sheetOf(x, 0, 1);
        for (int k = 0; k < 199; k++) {
            check.due("chip(0, " + k % 8 + ")", x.chip(0, k % 8), k);
        }
        check.due("chip(1, 0), found, takes no number", x.chip(1, 0), NULL);
        check.due("told(199, 0)", x.told(199, 0), BAD);
        x.set(0, 0, 0);
        check.due("chip(0, 5)", x.chip(0, 5), 199);
        check.due("count(2)", x.count(2), 200);
        x.dead(6);
        for (int k = 0; k < 3; k++) {
            check.due("chip(0, 6)", x.chip(0, 6), FULL);
            x.lot();
        }
        check.due("count(2)", x.count(2), 200);
        check.due("count(3)", x.count(3), 0);
        tells(x, 0, 2, 1, 3, 0, 0, 2);
        tells(x, 198, 2, 1, 3, 6, 6, 2);
        tells(x, 199, 0, 1, 3, 5, 5, 0);
        check.due("told(200, 0)", x.told(200, 0), BAD);
    }

    private static void promise22Told() {
        TestFloor x = new TestFloor();
        x.test(0, 0, 1, 1);
        Check.sheetOf(x, 0, 0);
        x.chip(0, 5);
        tells(x, 0, 0, 1, 1, 5, 5, 0);
        int[][] bad = {{-1, 0}, {1, 0}, {0, -1}, {0, 6}, {200, 0}, {MAX, 0}, {0, MAX}, {MIN, MIN}};
        for (int[] b : bad) {
            check.due("told(" + b[0] + ", " + b[1] + ")", x.told(b[0], b[1]), BAD);
        }
        x.lot();
        tells(x, 0, 0, 1, 1, 5, 5, 0);
    }

    /** "BAD": no such CHIP, one beyond as many as there are; no such fact. */
    private static void promise22FirstAndLastChip() {
        TestFloor x = new TestFloor();
        x.test(0, 0, 1, 1);
        x.sheet(0, 0, 1);
        for (int chips = 0; chips < 20; chips++) {
            check.due("told(" + (chips - 1) + ", 1)", x.told(chips - 1, 1), chips == 0 ? BAD : 1);
            check.due("told(" + chips + ", 1)", x.told(chips, 1), BAD);
            x.chip(0, 0);
        }
        for (int far : new int[] {MIN, MIN + 1, -1, 20, 21, 199, 200, MAX - 1, MAX}) {
            check.due("told(" + far + ", 0)", x.told(far, 0), BAD);
        }
        for (int far : new int[] {MIN, MIN + 1, -1, 6, 7, MAX - 1, MAX}) {
            check.due("told(0, " + far + ")", x.told(0, far), BAD);
            check.due("told(19, " + far + ")", x.told(19, far), BAD);
        }
    }

    /** "2 all times": of ten TESTS of 999 each, four times over; a DEAD SEAT has none. */
    private static void promise22MostTime() {
        TestFloor x = new TestFloor();
        for (int k = 0; k < 10; k++) {
            x.test(0, 0, 999, 1);
        }
        x.sheet(0, 2, 10);
        x.set(0, 9, MAX);
        x.law(2, 4);
        tells(x, x.chip(0, 6), 1, 4, 39960, 1, 6, 1);
        x.dead(0);
        x.law(0x8002, 4);
        tells(x, x.chip(0, 6), 1, 4, 29970, 1, 6, 1);
    }

    /** What a CHIP had when it was TRIED stays, whatever becomes of its SHEET, SEATS, LAW and TESTS. */
    private static void promise22ToldStays() {
        TestFloor x = new TestFloor();
        x.test(0, 0, 30, 4);
        Check.sheetOf(x, 0, 1, 9);
        x.seat(2, -1);
        x.law(16, 3);
        check.due("chip(0, 1)", x.chip(0, 1), 0);
        tells(x, 0, 0, 2, 60, 2, 1, 4);
        x.set(0, 0, 5);
        x.drop(0);
        x.seat(2, 7);
        x.dead(1);
        x.law(0, 1);
        x.test(0, 0, 500, 9);
        x.move(1, 0);
        x.share(0, 10);
        x.order();
        check.due("chip(0, 1)", x.chip(0, 1), NULL);
        x.sheet(0, 0, 2);
        check.due("chip(0, 1)", x.chip(0, 1), 1);
        x.lot();
        tells(x, 0, 0, 2, 60, 2, 1, 4);
        tells(x, 1, 15, 1, 0, 1, 1, 15);
    }
}
