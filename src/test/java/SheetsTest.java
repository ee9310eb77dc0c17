import java.util.function.IntSupplier;

/** Promises 1 to 5 and 36: a new object, SHEETS, status. */
public final class SheetsTest {
    private static final int NONE = -1000000, BAD = -1000001, STATE = -1000002, FULL = -1000003;
    private static final int NULL = -1000011, PLACE = -1000012, KIND = -1000013, SIZE = -1000014, STORE = -1000015;
    private static final int MIN = Integer.MIN_VALUE, MAX = Integer.MAX_VALUE;
    private static final Check check = new Check("SheetsTest");

    public static void main(String[] args) {
        promise01NewObject();
        promise01ObjectsOfTheirOwn();
        promise01LawAtFirst();
        promise01SeatsAddNothingAtFirst();
        promise01NoPatternAtFirst();
        promise02Sheet();
        promise02SheetsAreNewEachTime();
        promise02LeastAndMost();
        promise02AllItemsAreZeroAtFirst();
        promise02NoItemsInPlaceOfMany();
        promise02RefusedLeavesTheSheet();
        promise03Set();
        promise03Lanes();
        promise03LowestBits();
        promise03RefusedSetsNothing();
        promise04Copy();
        promise04CopyOverlaps();
        promise04CopyFindings();
        promise04CopyOfAllAndOfNothing();
        promise04RefusedCopiesNothing();
        promise05Drop();
        promise05RefusedDropsNothing();
        promise36Status();
        promise36StatusOfOtherCalls();
        promise36StatusAfterEachAnswer();
        promise36StatusOfChipsWhenFull();
        promise36NoneBeforeAFinding();
        check.end();
    }

    private static void promise01NewObject() {
        isNew(new TestFloor());
    }

    private static void isNew(TestFloor x) {
        for (int what = 0; what < 8; what++) {
            check.due("count(" + what + ")", x.count(what), 0);
        }
        check.due("status()", x.status(), 0);
        check.due("fault()", x.fault(), 0);
        for (int sheet = 0; sheet < 8; sheet++) {
            check.due("drop(" + sheet + ")", x.drop(sheet), NULL);
        }
        check.due("flow(0)", x.flow(0), NONE);
        check.due("trace(0)", x.trace(0), NONE);
        check.due("sign(0, 0)", x.sign(0, 0), NONE);
        check.due("told(0, 0)", x.told(0, 0), BAD);
        check.due("mean()", x.mean(), 0);
        for (int wafer = 0; wafer < 2; wafer++) {
            for (int y = 0; y < 12; y++) {
                for (int xx = 0; xx < 12; xx++) {
                    check.due("die " + xx + " " + y, x.die(wafer, xx, y, NONE), NONE);
                }
            }
        }
        for (int seat = 0; seat < 8; seat++) {
            check.due("seat(" + seat + ", 0)", x.seat(seat, 0), 0);
        }
        for (int bin = 0; bin < 16; bin++) {
            check.due("bins(" + bin + ")", x.bins(bin), 0);
        }
        check.due("lot()", x.lot(), 0);
        check.due("pattern()", x.pattern(), 0);
    }

    /** What is done to one object is nothing to another one, made ahead of that or behind it. */
    private static void promise01ObjectsOfTheirOwn() {
        TestFloor ahead = new TestFloor();
        TestFloor x = new TestFloor();
        for (int sheet = 0; sheet < 8; sheet++) {
            x.sheet(sheet, 2, 100);
        }
        for (int k = 0; k < 10; k++) {
            x.test(1, 1, 9, 1);
            x.share(k, 10);
        }
        for (int k = 0; k < 20; k++) {
            x.chip(0, k % 8);
        }
        for (int seat = 0; seat < 8; seat++) {
            x.seat(seat, 1);
            x.dead(seat);
        }
        for (int place = 0; place < 144; place++) {
            x.die(place % 2, place % 12, place / 12, 1);
        }
        x.ask(0, 0);
        Check.tape(x, "0(");
        x.pattern();
        Check.tape(x, "1;1;");
        x.pattern();
        Check.tape(x, "1;1;");
        x.set(0, 100, 0);
        isNew(ahead);
        isNew(new TestFloor());
    }

    /** "LAW: .. At first: no BINS, 1 try." */
    private static void promise01LawAtFirst() {
        for (int bin = 1; bin <= 15; bin++) {
            TestFloor x = new TestFloor();
            x.test(1, 1, 1, bin);
            x.sheet(0, 0, 1);
            check.due("chip(0, 0)", x.chip(0, 0), 0);
            check.due("told(0, 0) of BIN " + bin, x.told(0, 0), bin);
            check.due("told(0, 1) of BIN " + bin + ": TRIED once", x.told(0, 1), 1);
            x.dead(3);
            check.due("chip(0, 3)", x.chip(0, 3), 1);
            check.due("told(1, 1) of a DEAD SEAT: TRIED once", x.told(1, 1), 1);
        }
    }

    /** "SEATS 0 .. 7 add a number .. 0 at first, or are DEAD": none is at first. */
    private static void promise01SeatsAddNothingAtFirst() {
        TestFloor x = new TestFloor();
        x.test(5, 5, 1, 1);
        Check.sheetOf(x, 0, 5);
        for (int seat = 0; seat < 8; seat++) {
            check.due("chip(0, " + seat + ")", x.chip(0, seat), seat);
            check.due("told(" + seat + ", 0)", x.told(seat, 0), 0);
        }
    }

    /** "no PATTERN": STATE, though the SHEET has ITEMS. */
    private static void promise01NoPatternAtFirst() {
        TestFloor x = new TestFloor();
        x.sheet(0, 0, 1);
        check.due("compare(0, 0)", x.compare(0, 0), STATE);
        check.due("sign(0, 0)", x.sign(0, 0), NONE);
        check.due("count(5)", x.count(5), 0);
        check.due("count(6)", x.count(6), 0);
    }

    private static void promise02Sheet() {
        TestFloor x = new TestFloor();
        check.due("sheet(0, 0, 100)", x.sheet(0, 0, 100), 100);
        check.due("sheet(7, 2, 0)", x.sheet(7, 2, 0), 0);
        check.due("sheet(3, 1, 1)", x.sheet(3, 1, 1), 1);
        check.due("count(0)", x.count(0), 3);
        check.due("sheet(-1, 0, 1)", x.sheet(-1, 0, 1), BAD);
        check.due("sheet(8, 0, 1)", x.sheet(8, 0, 1), BAD);
        check.due("sheet(1, -1, 1)", x.sheet(1, -1, 1), BAD);
        check.due("sheet(1, 3, 1)", x.sheet(1, 3, 1), BAD);
        check.due("sheet(1, 0, 101)", x.sheet(1, 0, 101), BAD);
        check.due("sheet(8, 0, -1)", x.sheet(8, 0, -1), BAD);
        check.due("sheet(1, 3, -1)", x.sheet(1, 3, -1), BAD);
        check.due("sheet(1, 0, -1)", x.sheet(1, 0, -1), SIZE);
        check.due("sheet(1, 0, MIN)", x.sheet(1, 0, Integer.MIN_VALUE), SIZE);
        check.due("sheet(1, 0, MAX)", x.sheet(1, 0, Integer.MAX_VALUE), BAD);
        check.due("set(1, 0, 1)", x.set(1, 0, 1), NULL);
        check.due("sheet(0, 0, -1) found", x.sheet(0, 0, -1), SIZE);
        check.due("drop(0): it is there still", x.drop(0), 100);
    }

    private static void promise02SheetsAreNewEachTime() {
        TestFloor x = new TestFloor();
        Check.sheetOf(x, 0, 1, 2, 3, 4, 5);
        Check.sheetOf(x, 1, 9, 9, 9, 9, 9);
        x.sheet(0, 2, 5);
        check.due("edge(0, 0, 5, 0): all 0", x.edge(0, 0, 5, 0), 5);
        check.due("edge(0, 0, 5, 2): all 0", x.edge(0, 0, 5, 2), 1);
        check.due("edge(1, 0, 5, 0): the other one as it was", x.edge(1, 0, 5, 0), 0);
        x.set(0, 0, 7);
        x.drop(0);
        x.sheet(0, 2, 1);
        check.due("edge(0, 0, 1, 0) after drop", x.edge(0, 0, 1, 0), 1);
        check.due("sheet(0, 0, 3) for another lane", x.sheet(0, 0, 3), 3);
        check.due("set(0, 0, 128) in bytes now", x.set(0, 0, 128), -128);
    }

    /** "SHEETS 0 .. 7", "a LANE (0 bytes, 1 shorts, 2 ints)", "0 to 100 ITEMS". */
    private static void promise02LeastAndMost() {
        TestFloor x = new TestFloor();
        for (int far : new int[] {MIN, MIN + 1, -1, 8, 9, MAX - 1, MAX}) {
            check.due("sheet(" + far + ", 0, 0)", x.sheet(far, 0, 0), BAD);
        }
        for (int far : new int[] {MIN, MIN + 1, -1, 3, 4, MAX - 1, MAX}) {
            check.due("sheet(0, " + far + ", 0)", x.sheet(0, far, 0), BAD);
        }
        for (int far : new int[] {101, 102, MAX - 1, MAX}) {
            check.due("sheet(0, 0, " + far + ")", x.sheet(0, 0, far), BAD);
        }
        for (int far : new int[] {MIN, MIN + 1, -101, -100, -2, -1}) {
            check.due("sheet(0, 0, " + far + ")", x.sheet(0, 0, far), SIZE);
            check.due("sheet(-1, 0, " + far + "): BAD is ahead of SIZE", x.sheet(-1, 0, far), BAD);
            check.due("sheet(0, -1, " + far + "): BAD is ahead of SIZE", x.sheet(0, -1, far), BAD);
        }
        check.due("count(0)", x.count(0), 0);
        for (int sheet = 0; sheet < 8; sheet++) {
            for (int lane = 0; lane < 3; lane++) {
                for (int n : new int[] {100, 99, 1, 0}) {
                    check.due("sheet(" + sheet + ", " + lane + ", " + n + ")", x.sheet(sheet, lane, n), n);
                }
            }
            check.due("count(0)", x.count(0), sheet + 1);
        }
    }

    /** "0 to 100 ITEMS, 0 at first": all of them, also where others stood. */
    private static void promise02AllItemsAreZeroAtFirst() {
        for (int lane = 0; lane < 3; lane++) {
            TestFloor x = new TestFloor();
            x.sheet(7, lane, 100);
            check.due("not 0 in a new SHEET", Check.notZero(x, 7, 0, 100), 0);
            for (int i = 0; i < 100; i++) {
                x.set(7, i, -1);
            }
            x.sheet(7, lane, 1);
            x.sheet(7, lane, 100);
            check.due("not 0 where others stood", Check.notZero(x, 7, 0, 100), 0);
            check.due("set(7, 99, -1)", x.set(7, 99, -1), -1);
            x.drop(7);
            x.sheet(7, lane, 100);
            check.due("not 0 behind a drop", Check.notZero(x, 7, 99, 1), 0);
        }
    }

    /** A SHEET of no ITEMS is there, and is not missing. */
    private static void promise02NoItemsInPlaceOfMany() {
        TestFloor x = new TestFloor();
        Check.sheetOf(x, 0, 1, 1, 1);
        check.due("sheet(0, 1, 0)", x.sheet(0, 1, 0), 0);
        check.due("count(0)", x.count(0), 1);
        check.due("set(0, 0, 1)", x.set(0, 0, 1), PLACE);
        check.due("drop(0)", x.drop(0), 0);
        check.due("drop(0)", x.drop(0), NULL);
    }

    /** "What is refused, or found, changes nothing but status()": LANE, ITEMS and how many stay. */
    private static void promise02RefusedLeavesTheSheet() {
        TestFloor x = new TestFloor();
        Check.sheetOf(x, 0, 5, 0, 70000);
        check.due("sheet(0, 0, 101)", x.sheet(0, 0, 101), BAD);
        check.due("sheet(0, 3, 1)", x.sheet(0, 3, 1), BAD);
        check.due("sheet(0, -1, 1)", x.sheet(0, -1, 1), BAD);
        check.due("sheet(0, 0, -1)", x.sheet(0, 0, -1), SIZE);
        check.due("edge(0, 0, 1, 0)", x.edge(0, 0, 1, 0), 0);
        check.due("edge(0, 1, 2, 0)", x.edge(0, 1, 2, 0), 1);
        check.due("edge(0, 0, 4, 0)", x.edge(0, 0, 4, 0), PLACE);
        check.due("set(0, 1, 70000): ints as they were", x.set(0, 1, 70000), 70000);
        check.due("drop(0): as many as there were", x.drop(0), 3);
        x.sheet(0, 0, -1);
        check.due("drop(0): missing as it was", x.drop(0), NULL);
    }

    private static void promise03Set() {
        TestFloor x = new TestFloor();
        check.due("set(-1, 0, 0)", x.set(-1, 0, 0), BAD);
        check.due("set(8, 0, 0)", x.set(8, 0, 0), BAD);
        check.due("set(0, 0, 0)", x.set(0, 0, 0), NULL);
        check.due("set(0, -1, 0): NULL is ahead of PLACE", x.set(0, -1, 0), NULL);
        x.sheet(0, 2, 2);
        check.due("set(0, 1, 5)", x.set(0, 1, 5), 5);
        check.due("set(0, 2, 5)", x.set(0, 2, 5), PLACE);
        check.due("set(0, -1, 5)", x.set(0, -1, 5), PLACE);
        check.due("set(0, MAX, 5)", x.set(0, Integer.MAX_VALUE, 5), PLACE);
        check.due("set(0, MIN, 5)", x.set(0, Integer.MIN_VALUE, 5), PLACE);
        x.sheet(7, 2, 100);
        check.due("set(7, 99, 5)", x.set(7, 99, 5), 5);
        check.due("set(7, 100, 5)", x.set(7, 100, 5), PLACE);
    }

    private static void promise03Lanes() {
        TestFloor x = new TestFloor();
        for (int lane = 0; lane < 3; lane++) {
            x.sheet(lane, lane, 1);
        }
        int[] values = {0, 1, -1, 127, 128, 255, 256, -128, -129, 32767, 32768, 65535, 65536, -32768, -32769,
            Integer.MAX_VALUE, Integer.MIN_VALUE, 0x12345678};
        int[] bytes = {0, 1, -1, 127, -128, -1, 0, -128, 127, -1, 0, -1, 0, 0, -1, -1, 0, 0x78};
        int[] shorts = {0, 1, -1, 127, 128, 255, 256, -128, -129, 32767, -32768, -1, 0, -32768, 32767, -1, 0, 0x5678};
        for (int k = 0; k < values.length; k++) {
            check.due("set(0, 0, " + values[k] + ")", x.set(0, 0, values[k]), bytes[k]);
            check.due("set(1, 0, " + values[k] + ")", x.set(1, 0, values[k]), shorts[k]);
            check.due("set(2, 0, " + values[k] + ")", x.set(2, 0, values[k]), values[k]);
        }
        x.set(0, 0, 256);
        check.due("edge(0, 0, 1, 0): what is kept is what was answered", x.edge(0, 0, 1, 0), 1);
    }

    /** "its lowest bits, as many as the LANE has (read with their sign)", at each end of each LANE. */
    private static void promise03LowestBits() {
        TestFloor x = new TestFloor();
        for (int lane = 0; lane < 3; lane++) {
            x.sheet(lane, lane, 1);
        }
        for (int high : new int[] {0, 0x100, 0x7fffff00, 0x80000000, 0xffffff00, 0x12345600}) {
            check.due("set(0, 0, " + (high + 127) + ")", x.set(0, 0, high + 127), 127);
            check.due("set(0, 0, " + (high + 128) + ")", x.set(0, 0, high + 128), -128);
            check.due("set(0, 0, " + (high + 255) + ")", x.set(0, 0, high + 255), -1);
            check.due("set(0, 0, " + high + ")", x.set(0, 0, high), 0);
        }
        for (int high : new int[] {0, 0x10000, 0x7fff0000, 0x80000000, 0xffff0000, 0x12340000}) {
            check.due("set(1, 0, " + (high + 32767) + ")", x.set(1, 0, high + 32767), 32767);
            check.due("set(1, 0, " + (high + 32768) + ")", x.set(1, 0, high + 32768), -32768);
            check.due("set(1, 0, " + (high + 65535) + ")", x.set(1, 0, high + 65535), -1);
            check.due("set(1, 0, " + high + ")", x.set(1, 0, high), 0);
        }
        for (int v : new int[] {MIN, MIN + 1, -1, 0, 1, MAX - 1, MAX}) {
            check.due("set(2, 0, " + v + ")", x.set(2, 0, v), v);
        }
        x.set(1, 0, 65536);
        check.due("edge(1, 0, 1, 0): what is kept is what was answered", x.edge(1, 0, 1, 0), 1);
    }

    /** "PLACE": nothing is set, here or in the SHEET beside it. */
    private static void promise03RefusedSetsNothing() {
        TestFloor x = new TestFloor();
        for (int sheet = 0; sheet < 3; sheet++) {
            x.sheet(sheet, 2, 100);
        }
        for (int i : new int[] {MIN, -100, -2, -1, 100, 101, 199, 200, MAX}) {
            check.due("set(1, " + i + ", 9)", x.set(1, i, 9), PLACE);
            check.due("set(8, " + i + ", 9): BAD is ahead of PLACE", x.set(8, i, 9), BAD);
            check.due("set(3, " + i + ", 9): NULL is ahead of PLACE", x.set(3, i, 9), NULL);
        }
        for (int sheet = 0; sheet < 3; sheet++) {
            check.due("not 0 in SHEET " + sheet, Check.notZero(x, sheet, 0, 100), 0);
        }
        for (int sheet : new int[] {MIN, -1, 8, MAX}) {
            check.due("set(" + sheet + ", 0, 9)", x.set(sheet, 0, 9), BAD);
        }
        check.due("count(0)", x.count(0), 3);
    }

    private static void promise04Copy() {
        TestFloor x = new TestFloor();
        Check.sheetOf(x, 0, 0, 0, 1, 1, 0);
        Check.sheetOf(x, 1, 0, 0, 0, 0, 0, 0);
        check.due("copy(0, 2, 1, 4, 2)", x.copy(0, 2, 1, 4, 2), 2);
        check.due("edge(1, 0, 6, 0)", x.edge(1, 0, 6, 0), 4);
        check.due("edge(1, 0, 6, 2)", x.edge(1, 0, 6, 2), 1);
        check.due("edge(0, 1, 3, 0): the first one as it was", x.edge(0, 1, 3, 0), 1);
        check.due("copy(0, 5, 1, 6, 0): none, at both ends", x.copy(0, 5, 1, 6, 0), 0);
        check.due("copy(0, 0, 0, 0, 5)", x.copy(0, 0, 0, 0, 5), 5);
    }

    private static void promise04CopyOverlaps() {
        TestFloor x = new TestFloor();
        Check.sheetOf(x, 0, 0, 1, 0, 0, 1);
        x.copy(0, 0, 0, 1, 4);
        // 0 0 1 0 0
        check.due("edge(0, 0, 3, 2) after a copy to the right", x.edge(0, 0, 3, 2), 1);
        check.due("edge(0, 0, 3, 0) after a copy to the right", x.edge(0, 0, 3, 0), 2);
        check.due("edge(0, 3, 2, 0) after a copy to the right", x.edge(0, 3, 2, 0), 2);
        x.copy(0, 2, 0, 0, 3);
        // 1 0 0 0 0
        check.due("edge(0, 0, 1, 0) after a copy to the left", x.edge(0, 0, 1, 0), 0);
        check.due("edge(0, 1, 4, 2) after a copy to the left", x.edge(0, 1, 4, 2), 1);
        check.due("edge(0, 1, 4, 0) after a copy to the left", x.edge(0, 1, 4, 0), 4);
    }

    private static void promise04CopyFindings() {
        TestFloor x = new TestFloor();
        x.sheet(0, 0, 3);
        x.sheet(1, 1, 3);
        x.sheet(2, 0, 5);
        check.due("copy(-1, 0, 0, 0, 0)", x.copy(-1, 0, 0, 0, 0), BAD);
        check.due("copy(0, 0, 8, 0, 0)", x.copy(0, 0, 8, 0, 0), BAD);
        check.due("copy(8, 0, 3, 0, 0): BAD is ahead of NULL", x.copy(8, 0, 3, 0, 0), BAD);
        check.due("copy(3, 0, 8, 0, 0): BAD is ahead of NULL", x.copy(3, 0, 8, 0, 0), BAD);
        check.due("copy(0, 0, 3, 0, 0)", x.copy(0, 0, 3, 0, 0), NULL);
        check.due("copy(3, 0, 0, 0, 0)", x.copy(3, 0, 0, 0, 0), NULL);
        check.due("copy(3, 0, 0, 9, -1): NULL is ahead of PLACE", x.copy(3, 0, 0, 9, -1), NULL);
        check.due("copy(0, 0, 1, 0, 0)", x.copy(0, 0, 1, 0, 0), STORE);
        check.due("copy(0, 9, 1, 9, -9): STORE is ahead of PLACE", x.copy(0, 9, 1, 9, -9), STORE);
        int[][] places = {{-1, 0, 1}, {0, -1, 1}, {0, 0, -1}, {0, 0, 4}, {1, 0, 3}, {4, 0, 0}, {0, 6, 0}, {0, 3, 3},
            {1, 0, Integer.MAX_VALUE}, {0, 1, Integer.MAX_VALUE}, {Integer.MAX_VALUE, 0, 1},
            {0, Integer.MAX_VALUE, Integer.MAX_VALUE}, {Integer.MIN_VALUE, 0, 0}, {0, 0, Integer.MIN_VALUE}};
        for (int[] p : places) {
            String call = "copy(0, " + p[0] + ", 2, " + p[1] + ", " + p[2] + ")";
            check.due(call, x.copy(0, p[0], 2, p[1], p[2]), PLACE);
        }
        check.due("copy(0, 0, 2, 2, 3)", x.copy(0, 0, 2, 2, 3), 3);
        check.due("copy(0, 3, 2, 5, 0)", x.copy(0, 3, 2, 5, 0), 0);
    }

    /** "n ITEMS of a from i on": all 100; none, in SHEETS of none and behind the last one. */
    private static void promise04CopyOfAllAndOfNothing() {
        for (int lane = 0; lane < 3; lane++) {
            TestFloor x = new TestFloor();
            x.sheet(0, lane, 100);
            x.sheet(7, lane, 100);
            x.set(0, 0, 1);
            x.set(0, 99, 1);
            check.due("copy(0, 0, 7, 0, 100)", x.copy(0, 0, 7, 0, 100), 100);
            check.due("edge(7, 0, 1, 0)", x.edge(7, 0, 1, 0), 0);
            check.due("not 0 between", Check.notZero(x, 7, 1, 98), 0);
            check.due("edge(7, 99, 1, 0)", x.edge(7, 99, 1, 0), 0);
            check.due("copy(0, 0, 7, 0, 101)", x.copy(0, 0, 7, 0, 101), PLACE);
            check.due("copy(0, 100, 7, 100, 0)", x.copy(0, 100, 7, 100, 0), 0);
            check.due("copy(0, 101, 7, 0, 0)", x.copy(0, 101, 7, 0, 0), PLACE);
            check.due("copy(0, 0, 7, 101, 0)", x.copy(0, 0, 7, 101, 0), PLACE);
            x.sheet(3, lane, 0);
            check.due("copy(3, 0, 3, 0, 0)", x.copy(3, 0, 3, 0, 0), 0);
            check.due("copy(3, 0, 0, 0, 1)", x.copy(3, 0, 0, 0, 1), PLACE);
            check.due("copy(0, 0, 3, 0, 1)", x.copy(0, 0, 3, 0, 1), PLACE);
            check.due("copy(0, 0, 3, 0, 0)", x.copy(0, 0, 3, 0, 0), 0);
        }
    }

    /** What is found comes to no ITEM, and goes before none: also where a part of it would go. */
    private static void promise04RefusedCopiesNothing() {
        TestFloor x = new TestFloor();
        Check.sheetOf(x, 0, 1, 1, 1, 1);
        x.sheet(1, 2, 3);
        x.sheet(2, 1, 4);
        int[][] places = {{0, 0, 4}, {1, 1, 3}, {3, 0, 2}, {-1, 0, 2}, {0, -1, 2}, {0, 2, 2}, {2, 0, -1}, {0, 0, MIN},
            {MAX, MAX, MAX}, {MIN, MIN, MIN}, {1, 0, MAX}, {0, 1, MAX}, {MAX, 0, MAX}, {MIN, 0, MAX}};
        for (int[] p : places) {
            String call = "copy(0, " + p[0] + ", 1, " + p[1] + ", " + p[2] + ")";
            check.due(call, x.copy(0, p[0], 1, p[1], p[2]), PLACE);
        }
        check.due("copy(0, 0, 2, 0, 4)", x.copy(0, 0, 2, 0, 4), STORE);
        check.due("copy(0, 0, 5, 0, 3)", x.copy(0, 0, 5, 0, 3), NULL);
        for (int far : new int[] {MIN, -1, 8, MAX}) {
            check.due("copy(" + far + ", 0, 1, 0, 3)", x.copy(far, 0, 1, 0, 3), BAD);
            check.due("copy(0, 0, " + far + ", 0, 3)", x.copy(0, 0, far, 0, 3), BAD);
        }
        check.due("not 0 in SHEET 0", Check.notZero(x, 0, 0, 4), 4);
        check.due("not 0 in SHEET 1", Check.notZero(x, 1, 0, 3), 0);
        check.due("not 0 in SHEET 2", Check.notZero(x, 2, 0, 4), 0);
        check.due("count(0)", x.count(0), 3);
    }

    private static void promise05Drop() {
        TestFloor x = new TestFloor();
        check.due("drop(-1)", x.drop(-1), BAD);
        check.due("drop(8)", x.drop(8), BAD);
        check.due("drop(0)", x.drop(0), NULL);
        x.sheet(0, 1, 42);
        x.sheet(7, 0, 0);
        check.due("drop(0)", x.drop(0), 42);
        check.due("count(0)", x.count(0), 1);
        check.due("drop(0) again", x.drop(0), NULL);
        check.due("set(0, 0, 0)", x.set(0, 0, 0), NULL);
        check.due("drop(7)", x.drop(7), 0);
        check.due("count(0)", x.count(0), 0);
    }

    private static void promise05RefusedDropsNothing() {
        TestFloor x = new TestFloor();
        x.sheet(0, 0, 100);
        x.sheet(7, 0, 1);
        for (int far : new int[] {MIN, -1, 8, MAX}) {
            check.due("drop(" + far + ")", x.drop(far), BAD);
        }
        check.due("drop(1)", x.drop(1), NULL);
        check.due("count(0)", x.count(0), 2);
        check.due("drop(7)", x.drop(7), 1);
        check.due("drop(0): the other one as it was", x.drop(0), 100);
    }

    private static void promise36Status() {
        TestFloor x = new TestFloor();
        x.drop(0);
        check.due("status() after NULL", x.status(), 1);
        x.sheet(0, 0, 2);
        check.due("status() after a sheet", x.status(), 0);
        x.set(0, 2, 0);
        check.due("status() after PLACE", x.status(), 2);
        x.set(9, 0, 0);
        check.due("status() after BAD", x.status(), 2);
        x.set(0, 0, 0);
        check.due("status() after a set", x.status(), 0);
        x.test(3, 1, 4, 3);
        x.as(0, 1);
        check.due("status() after KIND", x.status(), 3);
        x.as(1, 0);
        check.due("status() after as() BAD", x.status(), 3);
        x.as(0, 3);
        check.due("status() after as()", x.status(), 0);
        x.sheet(0, 0, -1);
        check.due("status() after SIZE", x.status(), 4);
        x.copy(0, 0, 0, 0, 1);
        check.due("status() after a copy", x.status(), 0);
        x.sheet(1, 1, 2);
        x.copy(0, 0, 1, 0, 1);
        check.due("status() after STORE", x.status(), 5);
        x.drop(1);
        check.due("status() after a drop", x.status(), 0);
    }

    private static void promise36StatusOfOtherCalls() {
        TestFloor x = new TestFloor();
        x.sheet(0, 0, -1);
        x.compare(0, 0);
        check.due("status() after compare STATE", x.status(), 4);
        x.chip(0, 0);
        check.due("status() after chip STATE", x.status(), 4);
        Check.tape(x, "1;");
        x.pattern();
        x.test(0, 0, 1, 1);
        x.feed(0, 9);
        x.kind(5);
        x.seat(0, 1);
        x.dead(1);
        x.mean();
        x.order();
        x.lot();
        x.die(0, 0, 0, 0);
        check.due("status() after calls without a SHEET", x.status(), 4);
        x.compare(0, 0);
        check.due("status() after compare NULL", x.status(), 1);
        x.sheet(0, 0, 0);
        x.compare(0, 0);
        check.due("status() after compare PLACE", x.status(), 2);
        x.edge(1, 0, 1, 0);
        check.due("status() after edge NULL", x.status(), 1);
        x.edge(0, 0, 1, 0);
        check.due("status() after edge PLACE", x.status(), 2);
        x.chip(1, 0);
        check.due("status() after chip NULL", x.status(), 1);
        x.chip(0, 0);
        check.due("status() after chip PLACE", x.status(), 2);
        x.sheet(0, 0, 1);
        x.set(0, 1, 0);
        x.chip(0, 0);
        check.due("status() after a chip", x.status(), 0);
        x.set(0, 1, 0);
        x.edge(0, 0, 1, 0);
        check.due("status() after an edge", x.status(), 0);
        x.set(0, 1, 0);
        x.compare(0, 0);
        check.due("status() after a compare that finds no wrong sign", x.status(), 0);
        x.set(0, 1, 0);
        x.edge(0, 0, 61, 0);
        x.chip(0, 8);
        x.compare(0, 3);
        x.copy(0, 0, 8, 0, 0);
        x.sheet(0, 3, 0);
        x.drop(8);
        check.due("status() after calls that were BAD", x.status(), 2);
        for (int k = 0; k < 200; k++) {
            x.chip(0, 0);
        }
        x.set(0, 1, 0);
        check.due("chip(0, 0)", x.chip(0, 0), FULL);
        check.due("status() after chip FULL", x.status(), 2);
        check.due("chip(3, 0): FULL is ahead of NULL", x.chip(3, 0), FULL);
        check.due("chip(8, 0): BAD is ahead of FULL", x.chip(8, 0), BAD);
        check.due("STATE", TestFloor.STATE, STATE);
        check.due("KIND", x.as(0, 3), KIND);
    }

    /** One call behind a FINDING of KIND: its answer, and what status() says then. */
    private static void tells(TestFloor x, String call, IntSupplier made, int answer, int status) {
        check.due("as(0, 3)", x.as(0, 3), KIND);
        check.due(call, made.getAsInt(), answer);
        check.due("status() after " + call, x.status(), status);
        check.due("status() after status()", x.status(), status);
    }

    /** Each call with a SHEET, and as(): refused, found, and neither. */
    private static void promise36StatusAfterEachAnswer() {
        TestFloor x = new TestFloor();
        x.test(0, 0, 1, 1);
        x.sheet(0, 0, 3);
        x.sheet(1, 1, 3);
        x.sheet(2, 0, 0);
        tells(x, "sheet(8, 0, 0)", () -> x.sheet(8, 0, 0), BAD, 3);
        tells(x, "sheet(6, 3, 0)", () -> x.sheet(6, 3, 0), BAD, 3);
        tells(x, "sheet(6, 0, 101)", () -> x.sheet(6, 0, 101), BAD, 3);
        tells(x, "sheet(6, 0, -1)", () -> x.sheet(6, 0, -1), SIZE, 4);
        tells(x, "sheet(6, 0, 0)", () -> x.sheet(6, 0, 0), 0, 0);
        tells(x, "set(8, 0, 0)", () -> x.set(8, 0, 0), BAD, 3);
        tells(x, "set(7, 0, 0)", () -> x.set(7, 0, 0), NULL, 1);
        tells(x, "set(0, 3, 0)", () -> x.set(0, 3, 0), PLACE, 2);
        tells(x, "set(0, 2, 0)", () -> x.set(0, 2, 0), 0, 0);
        tells(x, "copy(8, 0, 0, 0, 0)", () -> x.copy(8, 0, 0, 0, 0), BAD, 3);
        tells(x, "copy(0, 0, 7, 0, 0)", () -> x.copy(0, 0, 7, 0, 0), NULL, 1);
        tells(x, "copy(7, 0, 0, 0, 0)", () -> x.copy(7, 0, 0, 0, 0), NULL, 1);
        tells(x, "copy(0, 0, 1, 0, 0)", () -> x.copy(0, 0, 1, 0, 0), STORE, 5);
        tells(x, "copy(0, 0, 2, 0, 1)", () -> x.copy(0, 0, 2, 0, 1), PLACE, 2);
        tells(x, "copy(0, 0, 2, 0, 0)", () -> x.copy(0, 0, 2, 0, 0), 0, 0);
        tells(x, "drop(8)", () -> x.drop(8), BAD, 3);
        tells(x, "drop(7)", () -> x.drop(7), NULL, 1);
        tells(x, "drop(6)", () -> x.drop(6), 0, 0);
        tells(x, "compare(0, 0)", () -> x.compare(0, 0), STATE, 3);
        Check.tape(x, "L;");
        tells(x, "pattern()", () -> x.pattern(), 1, 3);
        tells(x, "compare(8, 0)", () -> x.compare(8, 0), BAD, 3);
        tells(x, "compare(7, 0)", () -> x.compare(7, 0), NULL, 1);
        tells(x, "compare(2, 0)", () -> x.compare(2, 0), PLACE, 2);
        tells(x, "compare(0, 0)", () -> x.compare(0, 0), NONE, 0);
        tells(x, "compare(0, 2)", () -> x.compare(0, 2), 0, 0);
        tells(x, "as(0, 4)", () -> x.as(0, 4), BAD, 3);
        tells(x, "as(1, 0)", () -> x.as(1, 0), BAD, 3);
        tells(x, "as(0, 2)", () -> x.as(0, 2), 1, 0);
        tells(x, "chip(8, 0)", () -> x.chip(8, 0), BAD, 3);
        tells(x, "chip(0, 8)", () -> x.chip(0, 8), BAD, 3);
        tells(x, "chip(7, 0)", () -> x.chip(7, 0), NULL, 1);
        tells(x, "chip(2, 0)", () -> x.chip(2, 0), PLACE, 2);
        tells(x, "chip(0, 0)", () -> x.chip(0, 0), 0, 0);
        tells(x, "edge(8, 0, 1, 0)", () -> x.edge(8, 0, 1, 0), BAD, 3);
        tells(x, "edge(0, 0, 0, 0)", () -> x.edge(0, 0, 0, 0), BAD, 3);
        tells(x, "edge(7, 0, 1, 0)", () -> x.edge(7, 0, 1, 0), NULL, 1);
        tells(x, "edge(2, 0, 1, 0)", () -> x.edge(2, 0, 1, 0), PLACE, 2);
        tells(x, "edge(0, 0, 3, 0)", () -> x.edge(0, 0, 3, 0), 3, 0);
        tells(x, "edge(0, 0, 3, 2)", () -> x.edge(0, 0, 3, 2), 1, 0);
    }

    /** FULL, STATE of chip() leave status() as it is. */
    private static void promise36StatusOfChipsWhenFull() {
        TestFloor x = new TestFloor();
        x.sheet(0, 0, 1);
        x.set(0, 1, 0);
        check.due("chip(0, 0) without TESTS", x.chip(0, 0), STATE);
        check.due("status()", x.status(), 2);
        x.test(0, 0, 1, 1);
        for (int k = 0; k < 200; k++) {
            x.chip(0, 0);
        }
        tells(x, "chip(0, 0)", () -> x.chip(0, 0), FULL, 3);
        tells(x, "chip(7, 0)", () -> x.chip(7, 0), FULL, 3);
    }

    /** "0: it had none, or there was none": refusals alone are no FINDINGS. */
    private static void promise36NoneBeforeAFinding() {
        TestFloor x = new TestFloor();
        x.sheet(8, 0, 0);
        x.chip(0, 0);
        x.compare(0, 0);
        x.feed(0, 0);
        x.as(0, 0);
        check.due("status() after refusals alone", x.status(), 0);
        Check.tape(x, ")");
        x.pattern();
        check.due("status() after a FAULT", x.status(), 0);
    }
}
