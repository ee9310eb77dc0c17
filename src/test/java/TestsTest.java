/** Promises 11 to 17: TESTS, THE FLOW, KINDS, ASKS and THE TRACE. */
public final class TestsTest {
    private static final int NONE = -1000000, BAD = -1000001, FULL = -1000003, KIND = -1000013;
    private static final int MIN = Integer.MIN_VALUE, MAX = Integer.MAX_VALUE;
    private static final Check check = new Check("TestsTest");

    public static void main(String[] args) {
        promise11Test();
        promise11LeastAndMost();
        promise11RefusedAddsNone();
        promise12Move();
        promise12MoveRefusals();
        promise12FirstAndLastPlaceOfTen();
        promise12NoTests();
        promise13Flow();
        promise13FirstAndLastPlace();
        promise14Kind();
        promise14KindsAtTheirLimits();
        promise15As();
        promise15RefusalsAheadOfKind();
        promise16AskCost();
        promise16AskMark();
        promise16AskRefusals();
        promise16LeastAndMost();
        promise16AllBodiesOfAllKinds();
        promise17Trace();
        promise17EmptyAheadOfEachAsk();
        promise17RefusedLeavesTheTrace();
        check.end();
    }

    private static void promise11Test() {
        TestFloor x = new TestFloor();
        int[][] bad = {{0, 1}, {-1, 1}, {1000, 1}, {MAX, 1}, {MIN, 1}, {1, 0}, {1, 16}, {1, -1}, {1, MAX}, {1, MIN}};
        for (int[] b : bad) {
            check.due("test(0, 0, " + b[0] + ", " + b[1] + ")", x.test(0, 0, b[0], b[1]), BAD);
        }
        check.due("count(1)", x.count(1), 0);
        check.due("test 0", x.test(MIN, MAX, 1, 15), 0);
        check.due("test 1", x.test(MAX, MIN, 999, 1), 1);
        x.move(1, 0);
        for (int k = 2; k < 10; k++) {
            check.due("test " + k, x.test(0, 0, 1, 1), k);
            check.due("count(1)", x.count(1), k + 1);
            check.due("flow(" + k + "): THE FLOW has it last", x.flow(k), k);
        }
        check.due("test 10", x.test(0, 0, 1, 1), FULL);
        check.due("test of time 0: BAD is ahead of FULL", x.test(0, 0, 0, 1), BAD);
        check.due("test of BIN 16: BAD is ahead of FULL", x.test(0, 0, 1, 16), BAD);
        check.due("count(1)", x.count(1), 10);
    }

    /** "a time 1 to 999, a BIN 1 to 15", limits of any int. */
    private static void promise11LeastAndMost() {
        for (int bin = 1; bin <= 15; bin++) {
            TestFloor x = new TestFloor();
            for (int time : new int[] {1, 2, 998, 999}) {
                int test = x.count(1);
                check.due("test(0, 0, " + time + ", " + bin + ")", x.test(0, 0, time, bin), test);
                check.due("as(" + test + ", 0)", x.as(test, 0), time);
                check.due("ask(" + test + ", 1)", x.ask(test, 1), time < 10 ? bin + 100 : bin);
            }
        }
        for (int low : new int[] {MIN, MIN + 1, -1, 0, 1, MAX - 1, MAX}) {
            TestFloor x = new TestFloor();
            int test = 0;
            for (int high : new int[] {MIN, MIN + 1, -1, 0, 1, MAX - 1, MAX}) {
                check.due("test(" + low + ", " + high + ", 9, 1)", x.test(low, high, 9, 1), test);
                check.due("kind(" + test + ")", x.kind(test), low > high ? 3 : low == high ? 2 : 1);
                test++;
            }
        }
        TestFloor x = new TestFloor();
        for (int far : new int[] {MIN, MIN + 1, -1, 0, 1000, 1001, MAX - 1, MAX}) {
            check.due("test(0, 0, " + far + ", 1)", x.test(0, 0, far, 1), BAD);
        }
        for (int far : new int[] {MIN, MIN + 1, -1, 0, 16, 17, MAX - 1, MAX}) {
            check.due("test(0, 0, 1, " + far + ")", x.test(0, 0, 1, far), BAD);
        }
        check.due("count(1)", x.count(1), 0);
        check.due("test(0, 0, 1, 1): numbers go from 0 on", x.test(0, 0, 1, 1), 0);
    }

    /** "FULL: 10": the ten, and THE FLOW, are as they were. */
    private static void promise11RefusedAddsNone() {
        TestFloor x = floorOf(10);
        x.move(9, 0);
        for (int k = 0; k < 3; k++) {
            check.due("test(5, 4, 999, 15)", x.test(5, 4, 999, 15), FULL);
            check.due("test(5, 4, 1000, 15): BAD is ahead of FULL", x.test(5, 4, 1000, 15), BAD);
            check.due("test(5, 4, 999, 16): BAD is ahead of FULL", x.test(5, 4, 999, 16), BAD);
        }
        flows(x, "refusals", 9, 0, 1, 2, 3, 4, 5, 6, 7, 8);
        check.due("count(1)", x.count(1), 10);
        for (int test = 0; test < 10; test++) {
            check.due("kind(" + test + ")", x.kind(test), 2);
        }
        check.due("kind(10)", x.kind(10), BAD);
    }

    private static TestFloor floorOf(int tests) {
        TestFloor x = new TestFloor();
        for (int k = 0; k < tests; k++) {
            x.test(0, 0, 1, 1);
        }
        return x;
    }

    private static void flows(TestFloor x, String after, int... tests) {
        for (int place = 0; place < tests.length; place++) {
            check.due("flow(" + place + ") after " + after, x.flow(place), tests[place]);
        }
        check.due("flow(" + tests.length + ")", x.flow(tests.length), NONE);
    }

    private static void promise12Move() {
        TestFloor x = floorOf(5);
        check.due("move(0, 4)", x.move(0, 4), 0);
        flows(x, "move(0, 4)", 1, 2, 3, 4, 0);
        check.due("move(0, 1)", x.move(0, 1), 4);
        flows(x, "move(0, 1)", 1, 0, 2, 3, 4);
        check.due("move(3, 3)", x.move(3, 3), 3);
        flows(x, "move(3, 3)", 1, 0, 2, 3, 4);
        check.due("move(1, 2)", x.move(1, 2), 0);
        flows(x, "move(1, 2)", 0, 2, 1, 3, 4);
        check.due("move(4, 0)", x.move(4, 0), 4);
        flows(x, "move(4, 0)", 4, 0, 2, 1, 3);
        check.due("move(2, 3)", x.move(2, 3), 2);
        flows(x, "move(2, 3)", 4, 0, 1, 2, 3);
    }

    private static void promise12MoveRefusals() {
        TestFloor x = floorOf(3);
        x.move(2, 0);
        int[][] bad = {{-1, 0}, {3, 0}, {0, -1}, {0, 3}, {MAX, 0}, {0, MAX}, {MIN, 0}, {0, MIN}, {9, 9}};
        for (int[] b : bad) {
            check.due("move(" + b[0] + ", " + b[1] + ")", x.move(b[0], b[1]), BAD);
        }
        flows(x, "refusals", 2, 0, 1);
        TestFloor one = floorOf(1);
        check.due("move(0, 0)", one.move(0, 0), 0);
        check.due("move(0, 1)", one.move(0, 1), BAD);
    }

    /** From each place to each other one of ten: "others close up, and make room: where it was". */
    private static void promise12FirstAndLastPlaceOfTen() {
        for (int from = 0; from < 10; from++) {
            for (int to = 0; to < 10; to++) {
                TestFloor x = floorOf(10);
                check.due("move(" + from + ", " + to + ")", x.move(from, to), from);
                java.util.List<Integer> due = new java.util.ArrayList<>();
                for (int test = 0; test < 10; test++) {
                    due.add(test);
                }
                due.add(to, due.remove(from));
                flows(x, "move(" + from + ", " + to + ")", due.stream().mapToInt(Integer::intValue).toArray());
                check.due("move(" + from + ", 0): where it was", x.move(from, 0), to);
            }
        }
        TestFloor x = floorOf(10);
        for (int far : new int[] {MIN, MIN + 1, -1, 10, 11, MAX}) {
            check.due("move(0, " + far + ")", x.move(0, far), BAD);
            check.due("move(" + far + ", 0)", x.move(far, 0), BAD);
        }
        flows(x, "refusals", 0, 1, 2, 3, 4, 5, 6, 7, 8, 9);
    }

    private static void promise12NoTests() {
        TestFloor x = new TestFloor();
        for (int k : new int[] {MIN, -1, 0, 1, MAX}) {
            check.due("move(" + k + ", 0)", x.move(k, 0), BAD);
            check.due("move(0, " + k + ")", x.move(0, k), BAD);
        }
        x.test(0, 0, 1, 1);
        check.due("move(0, 0)", x.move(0, 0), 0);
        check.due("move(1, 0)", x.move(1, 0), BAD);
        check.due("move(0, 1)", x.move(0, 1), BAD);
        flows(x, "refusals", 0);
    }

    private static void promise13Flow() {
        TestFloor x = new TestFloor();
        check.due("flow(0)", x.flow(0), NONE);
        x = floorOf(10);
        flows(x, "10 tests", 0, 1, 2, 3, 4, 5, 6, 7, 8, 9);
        check.due("flow(-1)", x.flow(-1), NONE);
        check.due("flow(MAX)", x.flow(MAX), NONE);
        check.due("flow(MIN)", x.flow(MIN), NONE);
    }

    /** "NONE: there is no such place": one beyond as many as there are, none to ten. */
    private static void promise13FirstAndLastPlace() {
        for (int tests = 0; tests <= 10; tests++) {
            TestFloor x = floorOf(tests);
            for (int far : new int[] {MIN, MIN + 1, -1, tests, tests + 1, MAX}) {
                check.due("flow(" + far + ") of " + tests, x.flow(far), NONE);
            }
            if (tests > 0) {
                check.due("flow(0) of " + tests, x.flow(0), 0);
                check.due("flow(" + (tests - 1) + ")", x.flow(tests - 1), tests - 1);
            }
        }
    }

    private static TestFloor floorOfKinds() {
        TestFloor x = new TestFloor();
        x.test(0, 10, 10, 7);   // 0: TEST
        x.test(0, 10, 9, 6);    // 1: SHORT
        x.test(5, 5, 9, 5);     // 2: POINT
        x.test(6, 5, 9, 4);     // 3: OPEN, of little time
        x.test(6, 5, 10, 3);    // 4: OPEN
        x.test(5, 5, 10, 2);    // 5: TEST, low and high are one
        x.test(-5, -5, 1, 1);   // 6: POINT
        x.test(MIN, MAX, 1, 1); // 7: SHORT
        x.test(MAX, MIN, 1, 1); // 8: OPEN
        return x;
    }

    private static final int[] KINDS = {0, 1, 2, 3, 3, 0, 2, 1, 3};
    private static final int[] TIMES = {10, 9, 9, 9, 10, 10, 1, 1, 1};

    private static void promise14Kind() {
        TestFloor x = floorOfKinds();
        for (int test = 0; test < KINDS.length; test++) {
            check.due("kind(" + test + ")", x.kind(test), KINDS[test]);
        }
        check.due("kind(9)", x.kind(9), BAD);
        check.due("kind(-1)", x.kind(-1), BAD);
        check.due("kind(MAX)", x.kind(MAX), BAD);
    }

    /** "its time is 9 or less", "low and high are one", "low is above high", and the first that fits. */
    private static void promise14KindsAtTheirLimits() {
        int[] lows = {MIN, MIN + 1, -1, 0, 1, MAX - 1, MAX};
        for (int low : lows) {
            TestFloor x = new TestFloor();
            int test = 0;
            for (int time : new int[] {1, 9, 10}) {
                for (int more = -1; more <= 1; more++) {
                    if (low == MIN && more < 0 || low == MAX && more > 0) {
                        continue;
                    }
                    x.test(low, low + more, time, 1);
                    int kind = more < 0 ? 3 : time == 10 ? 0 : more == 0 ? 2 : 1;
                    check.due("kind of " + low + ", " + (low + more) + ", " + time, x.kind(test), kind);
                    test++;
                }
            }
            for (int far : new int[] {MIN, -1, test, 10, MAX}) {
                check.due("kind(" + far + ")", x.kind(far), BAD);
            }
        }
        check.due("kind(0) of no TESTS", new TestFloor().kind(0), BAD);
    }

    private static void promise15As() {
        TestFloor x = floorOfKinds();
        boolean[][] isAlso = {{true, false, false, false}, {true, true, false, false}, {true, true, true, false},
            {true, false, false, true}};
        for (int test = 0; test < KINDS.length; test++) {
            for (int kind = 0; kind < 4; kind++) {
                String call = "as(" + test + ", " + kind + ")";
                check.due(call, x.as(test, kind), isAlso[KINDS[test]][kind] ? TIMES[test] : KIND);
                check.due("status() after " + call, x.status(), isAlso[KINDS[test]][kind] ? 0 : 3);
            }
        }
        x.as(0, 3);
        int[][] bad = {{-1, 0}, {9, 0}, {0, -1}, {0, 4}, {MAX, 0}, {0, MIN}};
        for (int[] b : bad) {
            check.due("as(" + b[0] + ", " + b[1] + ")", x.as(b[0], b[1]), BAD);
        }
        check.due("status()", x.status(), 3);
    }

    /** "BAD; KIND": numbers that are not as told are BAD, whatever the TEST is. */
    private static void promise15RefusalsAheadOfKind() {
        TestFloor x = floorOfKinds();
        for (int test = 0; test < KINDS.length; test++) {
            for (int far : new int[] {MIN, MIN + 1, -1, 4, 5, MAX}) {
                check.due("as(" + test + ", " + far + ")", x.as(test, far), BAD);
            }
        }
        for (int far : new int[] {MIN, -1, 9, 10, MAX}) {
            for (int kind = 0; kind < 4; kind++) {
                check.due("as(" + far + ", " + kind + ")", x.as(far, kind), BAD);
            }
        }
        check.due("as(0, 0) of no TESTS", new TestFloor().as(0, 0), BAD);
        check.due("as(0, 1)", x.as(0, 1), KIND);
        check.due("kind(0): as it was", x.kind(0), 0);
    }

    private static void asks(TestFloor x, int test, int what, int answer, int... bodies) {
        String call = "ask(" + test + ", " + what + ")";
        check.due(call, x.ask(test, what), answer);
        for (int i = 0; i < bodies.length; i++) {
            check.due("trace(" + i + ") after " + call, x.trace(i), bodies[i]);
        }
        check.due("trace(" + bodies.length + ") after " + call, x.trace(bodies.length), NONE);
    }

    private static void promise16AskCost() {
        TestFloor x = floorOfKinds();
        asks(x, 0, 0, 10, 10);
        asks(x, 1, 0, 18, 11, 10);
        asks(x, 2, 0, 18 + 105, 12, 11, 10, 21, 20);
        asks(x, 3, 0, 0, 13);
        asks(x, 4, 0, 0, 13);
        asks(x, 5, 0, 10, 10);
        asks(x, 6, 0, 2 + 101, 12, 11, 10, 21, 20);
    }

    private static void promise16AskMark() {
        TestFloor x = floorOfKinds();
        asks(x, 0, 1, 7, 20);
        asks(x, 1, 1, 106, 21, 20);
        asks(x, 2, 1, 105, 21, 20);
        asks(x, 3, 1, 5, 22, 20, 13);
        asks(x, 4, 1, 4, 22, 20, 13);
        asks(x, 5, 1, 2, 20);
    }

    private static void promise16AskRefusals() {
        TestFloor x = floorOfKinds();
        int[][] bad = {{-1, 0}, {9, 0}, {0, -1}, {0, 2}, {MAX, 0}, {0, MAX}, {MIN, MIN}};
        for (int[] b : bad) {
            check.due("ask(" + b[0] + ", " + b[1] + ")", x.ask(b[0], b[1]), BAD);
        }
        x.as(0, 3);
        x.ask(0, 0);
        check.due("status() after an ask", x.status(), 3);
    }

    private static void promise17Trace() {
        TestFloor x = floorOfKinds();
        check.due("trace(0)", x.trace(0), NONE);
        x.ask(2, 0);
        x.ask(9, 0);
        x.ask(0, 2);
        check.due("trace(0) after a refusal", x.trace(0), 12);
        check.due("trace(4) after a refusal", x.trace(4), 20);
        check.due("trace(5)", x.trace(5), NONE);
        check.due("trace(-1)", x.trace(-1), NONE);
        check.due("trace(16)", x.trace(16), NONE);
        check.due("trace(MAX)", x.trace(MAX), NONE);
        check.due("trace(MIN)", x.trace(MIN), NONE);
        for (int k = 0; k < 30; k++) {
            asks(x, 2, 0, 123, 12, 11, 10, 21, 20);
        }
        asks(x, 0, 0, 10, 10);
    }

    /** Times 1, 9, 10, 999 and BINS 1, 15: the least and the most that is answered. */
    private static void promise16LeastAndMost() {
        TestFloor x = new TestFloor();
        x.test(0, 1, 999, 15);
        x.test(0, 1, 9, 15);
        x.test(0, 0, 9, 15);
        x.test(0, 0, 1, 1);
        x.test(0, 0, 10, 15);
        x.test(1, 0, 999, 15);
        x.test(1, 0, 1, 1);
        asks(x, 0, 0, 999, 10);
        asks(x, 0, 1, 15, 20);
        asks(x, 1, 0, 18, 11, 10);
        asks(x, 1, 1, 115, 21, 20);
        asks(x, 2, 0, 18 + 115, 12, 11, 10, 21, 20);
        asks(x, 2, 1, 115, 21, 20);
        asks(x, 3, 0, 2 + 101, 12, 11, 10, 21, 20);
        asks(x, 4, 0, 10, 10);
        asks(x, 4, 1, 15, 20);
        asks(x, 5, 0, 0, 13);
        asks(x, 5, 1, 16, 22, 20, 13);
        asks(x, 6, 1, 2, 22, 20, 13);
    }

    /** Every KIND, time and BIN: "Of an ask the BODY told for the KIND begins, else that of the nearest KIND". */
    private static void promise16AllBodiesOfAllKinds() {
        for (int bin = 1; bin <= 15; bin++) {
            for (int time = 8; time <= 11; time++) {
                TestFloor x = new TestFloor();
                x.test(3, 4, time, bin);
                x.test(3, 3, time, bin);
                x.test(4, 3, time, bin);
                if (time <= 9) {
                    asks(x, 0, 0, 2 * time, 11, 10);
                    asks(x, 0, 1, bin + 100, 21, 20);
                    asks(x, 1, 0, 2 * time + bin + 100, 12, 11, 10, 21, 20);
                    asks(x, 1, 1, bin + 100, 21, 20);
                } else {
                    for (int test = 0; test < 2; test++) {
                        asks(x, test, 0, time, 10);
                        asks(x, test, 1, bin, 20);
                    }
                }
                asks(x, 2, 0, 0, 13);
                asks(x, 2, 1, bin + 1, 22, 20, 13);
            }
        }
    }

    /** "THE TRACE is empty ahead of it": a short ask behind a long one leaves none of that one's numbers. */
    private static void promise17EmptyAheadOfEachAsk() {
        TestFloor x = floorOfKinds();
        for (int i : new int[] {MIN, MIN + 1, -1, 0, 1, 15, 16, 17, MAX}) {
            check.due("trace(" + i + ") before an ask", x.trace(i), NONE);
        }
        asks(x, 2, 0, 123, 12, 11, 10, 21, 20);
        asks(x, 3, 0, 0, 13);
        for (int i = 1; i <= 17; i++) {
            check.due("trace(" + i + ")", x.trace(i), NONE);
        }
        check.due("trace(0)", x.trace(0), 13);
        check.due("trace(-1)", x.trace(-1), NONE);
    }

    /** "(where that is refused it stays)", behind calls of other names, too. */
    private static void promise17RefusedLeavesTheTrace() {
        TestFloor x = floorOfKinds();
        int[][] bad = {{-1, 0}, {9, 0}, {10, 1}, {0, -1}, {0, 2}, {MAX, 0}, {MIN, 1}, {2, MAX}, {2, MIN}};
        x.ask(4, 1);
        for (int[] b : bad) {
            check.due("ask(" + b[0] + ", " + b[1] + ")", x.ask(b[0], b[1]), BAD);
            check.due("trace(0)", x.trace(0), 22);
            check.due("trace(1)", x.trace(1), 20);
            check.due("trace(2)", x.trace(2), 13);
            check.due("trace(3)", x.trace(3), NONE);
        }
        x.as(2, 2);
        x.kind(2);
        x.move(2, 0);
        x.test(0, 0, 1, 1);
        x.chip(0, 0);
        check.due("trace(0)", x.trace(0), 22);
        check.due("trace(3)", x.trace(3), NONE);
        check.due("ask(0, 0) of no TESTS", new TestFloor().ask(0, 0), BAD);
    }
}
