/** Promises 1 to 5 and 36: a new object, SHEETS, status. */
public final class SheetsTest {
    private static final int NONE = -1000000, BAD = -1000001, STATE = -1000002, FULL = -1000003;
    private static final int NULL = -1000011, PLACE = -1000012, KIND = -1000013, SIZE = -1000014, STORE = -1000015;
    private static final Check check = new Check("SheetsTest");

    public static void main(String[] args) {
        promise01NewObject();
        promise02Sheet();
        promise02SheetsAreNewEachTime();
        promise03Set();
        promise03Lanes();
        promise04Copy();
        promise04CopyOverlaps();
        promise04CopyFindings();
        promise05Drop();
        promise36Status();
        promise36StatusOfOtherCalls();
        check.end();
    }

    private static void promise01NewObject() {
        TestFloor x = new TestFloor();
        for (int what = 0; what < 8; what++) {
            check.due("count(" + what + ")", x.count(what), 0);
        }
        check.due("status()", x.status(), 0);
        check.due("fault()", x.fault(), 0);
        for (int sheet = 0; sheet < 8; sheet++) {
            check.due("drop(" + sheet + ")", x.drop(sheet), NULL);
        }
        check.due("flow(0)", x.flow(0), NONE);
        check.due("trace(0)", x.trace(0), NONE);
        check.due("sign(0, 0)", x.sign(0, 0), NONE);
        check.due("told(0, 0)", x.told(0, 0), BAD);
        check.due("mean()", x.mean(), 0);
        for (int wafer = 0; wafer < 2; wafer++) {
            for (int y = 0; y < 12; y++) {
                for (int xx = 0; xx < 12; xx++) {
                    check.due("die " + xx + " " + y, x.die(wafer, xx, y, NONE), NONE);
                }
            }
        }
        for (int seat = 0; seat < 8; seat++) {
            check.due("seat(" + seat + ", 0)", x.seat(seat, 0), 0);
        }
        for (int bin = 0; bin < 16; bin++) {
            check.due("bins(" + bin + ")", x.bins(bin), 0);
        }
        check.due("lot()", x.lot(), 0);
        check.due("pattern()", x.pattern(), 0);
    }

    private static void promise02Sheet() {
        TestFloor x = new TestFloor();
        check.due("sheet(0, 0, 100)", x.sheet(0, 0, 100), 100);
        check.due("sheet(7, 2, 0)", x.sheet(7, 2, 0), 0);
        check.due("sheet(3, 1, 1)", x.sheet(3, 1, 1), 1);
        check.due("count(0)", x.count(0), 3);
        check.due("sheet(-1, 0, 1)", x.sheet(-1, 0, 1), BAD);
        check.due("sheet(8, 0, 1)", x.sheet(8, 0, 1), BAD);
        check.due("sheet(1, -1, 1)", x.sheet(1, -1, 1), BAD);
        check.due("sheet(1, 3, 1)", x.sheet(1, 3, 1), BAD);
        check.due("sheet(1, 0, 101)", x.sheet(1, 0, 101), BAD);
        check.due("sheet(8, 0, -1)", x.sheet(8, 0, -1), BAD);
        check.due("sheet(1, 3, -1)", x.sheet(1, 3, -1), BAD);
        check.due("sheet(1, 0, -1)", x.sheet(1, 0, -1), SIZE);
        check.due("sheet(1, 0, MIN)", x.sheet(1, 0, Integer.MIN_VALUE), SIZE);
        check.due("sheet(1, 0, MAX)", x.sheet(1, 0, Integer.MAX_VALUE), BAD);
        check.due("set(1, 0, 1)", x.set(1, 0, 1), NULL);
        check.due("sheet(0, 0, -1) found", x.sheet(0, 0, -1), SIZE);
        check.due("drop(0): it is there still", x.drop(0), 100);
    }

    private static void promise02SheetsAreNewEachTime() {
        TestFloor x = new TestFloor();
        Check.sheetOf(x, 0, 1, 2, 3, 4, 5);
        Check.sheetOf(x, 1, 9, 9, 9, 9, 9);
        x.sheet(0, 2, 5);
        check.due("edge(0, 0, 5, 0): all 0", x.edge(0, 0, 5, 0), 5);
        check.due("edge(0, 0, 5, 2): all 0", x.edge(0, 0, 5, 2), 1);
        check.due("edge(1, 0, 5, 0): the other one as it was", x.edge(1, 0, 5, 0), 0);
        x.set(0, 0, 7);
        x.drop(0);
        x.sheet(0, 2, 1);
        check.due("edge(0, 0, 1, 0) after drop", x.edge(0, 0, 1, 0), 1);
        check.due("sheet(0, 0, 3) for another lane", x.sheet(0, 0, 3), 3);
        check.due("set(0, 0, 128) in bytes now", x.set(0, 0, 128), -128);
    }

    private static void promise03Set() {
        TestFloor x = new TestFloor();
        check.due("set(-1, 0, 0)", x.set(-1, 0, 0), BAD);
        check.due("set(8, 0, 0)", x.set(8, 0, 0), BAD);
        check.due("set(0, 0, 0)", x.set(0, 0, 0), NULL);
        check.due("set(0, -1, 0): NULL is ahead of PLACE", x.set(0, -1, 0), NULL);
        x.sheet(0, 2, 2);
        check.due("set(0, 1, 5)", x.set(0, 1, 5), 5);
        check.due("set(0, 2, 5)", x.set(0, 2, 5), PLACE);
        check.due("set(0, -1, 5)", x.set(0, -1, 5), PLACE);
        check.due("set(0, MAX, 5)", x.set(0, Integer.MAX_VALUE, 5), PLACE);
        check.due("set(0, MIN, 5)", x.set(0, Integer.MIN_VALUE, 5), PLACE);
        x.sheet(7, 2, 100);
        check.due("set(7, 99, 5)", x.set(7, 99, 5), 5);
        check.due("set(7, 100, 5)", x.set(7, 100, 5), PLACE);
    }

    private static void promise03Lanes() {
        TestFloor x = new TestFloor();
        for (int lane = 0; lane < 3; lane++) {
            x.sheet(lane, lane, 1);
        }
        int[] values = {0, 1, -1, 127, 128, 255, 256, -128, -129, 32767, 32768, 65535, 65536, -32768, -32769,
            Integer.MAX_VALUE, Integer.MIN_VALUE, 0x12345678};
        int[] bytes = {0, 1, -1, 127, -128, -1, 0, -128, 127, -1, 0, -1, 0, 0, -1, -1, 0, 0x78};
        int[] shorts = {0, 1, -1, 127, 128, 255, 256, -128, -129, 32767, -32768, -1, 0, -32768, 32767, -1, 0, 0x5678};
        for (int k = 0; k < values.length; k++) {
            check.due("set(0, 0, " + values[k] + ")", x.set(0, 0, values[k]), bytes[k]);
            check.due("set(1, 0, " + values[k] + ")", x.set(1, 0, values[k]), shorts[k]);
            check.due("set(2, 0, " + values[k] + ")", x.set(2, 0, values[k]), values[k]);
        }
        x.set(0, 0, 256);
        check.due("edge(0, 0, 1, 0): what is kept is what was answered", x.edge(0, 0, 1, 0), 1);
    }

    private static void promise04Copy() {
        TestFloor x = new TestFloor();
        Check.sheetOf(x, 0, 0, 0, 1, 1, 0);
        Check.sheetOf(x, 1, 0, 0, 0, 0, 0, 0);
        check.due("copy(0, 2, 1, 4, 2)", x.copy(0, 2, 1, 4, 2), 2);
        check.due("edge(1, 0, 6, 0)", x.edge(1, 0, 6, 0), 4);
        check.due("edge(1, 0, 6, 2)", x.edge(1, 0, 6, 2), 1);
        check.due("edge(0, 1, 3, 0): the first one as it was", x.edge(0, 1, 3, 0), 1);
        check.due("copy(0, 5, 1, 6, 0): none, at both ends", x.copy(0, 5, 1, 6, 0), 0);
        check.due("copy(0, 0, 0, 0, 5)", x.copy(0, 0, 0, 0, 5), 5);
    }

    private static void promise04CopyOverlaps() {
        TestFloor x = new TestFloor();
        Check.sheetOf(x, 0, 0, 1, 0, 0, 1);
        x.copy(0, 0, 0, 1, 4);
        // 0 0 1 0 0
        check.due("edge(0, 0, 3, 2) after a copy to the right", x.edge(0, 0, 3, 2), 1);
        check.due("edge(0, 0, 3, 0) after a copy to the right", x.edge(0, 0, 3, 0), 2);
        check.due("edge(0, 3, 2, 0) after a copy to the right", x.edge(0, 3, 2, 0), 2);
        x.copy(0, 2, 0, 0, 3);
        // 1 0 0 0 0
        check.due("edge(0, 0, 1, 0) after a copy to the left", x.edge(0, 0, 1, 0), 0);
        check.due("edge(0, 1, 4, 2) after a copy to the left", x.edge(0, 1, 4, 2), 1);
        check.due("edge(0, 1, 4, 0) after a copy to the left", x.edge(0, 1, 4, 0), 4);
    }

    private static void promise04CopyFindings() {
        TestFloor x = new TestFloor();
        x.sheet(0, 0, 3);
        x.sheet(1, 1, 3);
        x.sheet(2, 0, 5);
        check.due("copy(-1, 0, 0, 0, 0)", x.copy(-1, 0, 0, 0, 0), BAD);
        check.due("copy(0, 0, 8, 0, 0)", x.copy(0, 0, 8, 0, 0), BAD);
        check.due("copy(8, 0, 3, 0, 0): BAD is ahead of NULL", x.copy(8, 0, 3, 0, 0), BAD);
        check.due("copy(3, 0, 8, 0, 0): BAD is ahead of NULL", x.copy(3, 0, 8, 0, 0), BAD);
        check.due("copy(0, 0, 3, 0, 0)", x.copy(0, 0, 3, 0, 0), NULL);
        check.due("copy(3, 0, 0, 0, 0)", x.copy(3, 0, 0, 0, 0), NULL);
        check.due("copy(3, 0, 0, 9, -1): NULL is ahead of PLACE", x.copy(3, 0, 0, 9, -1), NULL);
        check.due("copy(0, 0, 1, 0, 0)", x.copy(0, 0, 1, 0, 0), STORE);
        check.due("copy(0, 9, 1, 9, -9): STORE is ahead of PLACE", x.copy(0, 9, 1, 9, -9), STORE);
        int[][] places = {{-1, 0, 1}, {0, -1, 1}, {0, 0, -1}, {0, 0, 4}, {1, 0, 3}, {4, 0, 0}, {0, 6, 0}, {0, 3, 3},
            {1, 0, Integer.MAX_VALUE}, {0, 1, Integer.MAX_VALUE}, {Integer.MAX_VALUE, 0, 1},
            {0, Integer.MAX_VALUE, Integer.MAX_VALUE}, {Integer.MIN_VALUE, 0, 0}, {0, 0, Integer.MIN_VALUE}};
        for (int[] p : places) {
            String call = "copy(0, " + p[0] + ", 2, " + p[1] + ", " + p[2] + ")";
            check.due(call, x.copy(0, p[0], 2, p[1], p[2]), PLACE);
        }
        check.due("copy(0, 0, 2, 2, 3)", x.copy(0, 0, 2, 2, 3), 3);
        check.due("copy(0, 3, 2, 5, 0)", x.copy(0, 3, 2, 5, 0), 0);
    }

    private static void promise05Drop() {
        TestFloor x = new TestFloor();
        check.due("drop(-1)", x.drop(-1), BAD);
        check.due("drop(8)", x.drop(8), BAD);
        check.due("drop(0)", x.drop(0), NULL);
        x.sheet(0, 1, 42);
        x.sheet(7, 0, 0);
        check.due("drop(0)", x.drop(0), 42);
        check.due("count(0)", x.count(0), 1);
        check.due("drop(0) again", x.drop(0), NULL);
        check.due("set(0, 0, 0)", x.set(0, 0, 0), NULL);
        check.due("drop(7)", x.drop(7), 0);
        check.due("count(0)", x.count(0), 0);
    }

    private static void promise36Status() {
        TestFloor x = new TestFloor();
        x.drop(0);
        check.due("status() after NULL", x.status(), 1);
        x.sheet(0, 0, 2);
        check.due("status() after a sheet", x.status(), 0);
        x.set(0, 2, 0);
        check.due("status() after PLACE", x.status(), 2);
        x.set(9, 0, 0);
        check.due("status() after BAD", x.status(), 2);
        x.set(0, 0, 0);
        check.due("status() after a set", x.status(), 0);
        x.test(3, 1, 4, 3);
        x.as(0, 1);
        check.due("status() after KIND", x.status(), 3);
        x.as(1, 0);
        check.due("status() after as() BAD", x.status(), 3);
        x.as(0, 3);
        check.due("status() after as()", x.status(), 0);
        x.sheet(0, 0, -1);
        check.due("status() after SIZE", x.status(), 4);
        x.copy(0, 0, 0, 0, 1);
        check.due("status() after a copy", x.status(), 0);
        x.sheet(1, 1, 2);
        x.copy(0, 0, 1, 0, 1);
        check.due("status() after STORE", x.status(), 5);
        x.drop(1);
        check.due("status() after a drop", x.status(), 0);
    }

    private static void promise36StatusOfOtherCalls() {
        TestFloor x = new TestFloor();
        x.sheet(0, 0, -1);
        x.compare(0, 0);
        check.due("status() after compare STATE", x.status(), 4);
        x.chip(0, 0);
        check.due("status() after chip STATE", x.status(), 4);
        Check.tape(x, "1;");
        x.pattern();
        x.test(0, 0, 1, 1);
        x.feed(0, 9);
        x.kind(5);
        x.seat(0, 1);
        x.dead(1);
        x.mean();
        x.order();
        x.lot();
        x.die(0, 0, 0, 0);
        check.due("status() after calls without a SHEET", x.status(), 4);
        x.compare(0, 0);
        check.due("status() after compare NULL", x.status(), 1);
        x.sheet(0, 0, 0);
        x.compare(0, 0);
        check.due("status() after compare PLACE", x.status(), 2);
        x.edge(1, 0, 1, 0);
        check.due("status() after edge NULL", x.status(), 1);
        x.edge(0, 0, 1, 0);
        check.due("status() after edge PLACE", x.status(), 2);
        x.chip(1, 0);
        check.due("status() after chip NULL", x.status(), 1);
        x.chip(0, 0);
        check.due("status() after chip PLACE", x.status(), 2);
        x.sheet(0, 0, 1);
        x.set(0, 1, 0);
        x.chip(0, 0);
        check.due("status() after a chip", x.status(), 0);
        x.set(0, 1, 0);
        x.edge(0, 0, 1, 0);
        check.due("status() after an edge", x.status(), 0);
        x.set(0, 1, 0);
        x.compare(0, 0);
        check.due("status() after a compare that finds no wrong sign", x.status(), 0);
        x.set(0, 1, 0);
        x.edge(0, 0, 61, 0);
        x.chip(0, 8);
        x.compare(0, 3);
        x.copy(0, 0, 8, 0, 0);
        x.sheet(0, 3, 0);
        x.drop(8);
        check.due("status() after calls that were BAD", x.status(), 2);
        for (int k = 0; k < 200; k++) {
            x.chip(0, 0);
        }
        x.set(0, 1, 0);
        check.due("chip(0, 0)", x.chip(0, 0), FULL);
        check.due("status() after chip FULL", x.status(), 2);
        check.due("chip(3, 0): FULL is ahead of NULL", x.chip(3, 0), FULL);
        check.due("chip(8, 0): BAD is ahead of FULL", x.chip(8, 0), BAD);
        check.due("STATE", TestFloor.STATE, STATE);
        check.due("KIND", x.as(0, 3), KIND);
    }
}
