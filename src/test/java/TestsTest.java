/** Promises 11 to 17: TESTS, THE FLOW, KINDS, ASKS and THE TRACE. */
public final class TestsTest {
    private static final int NONE = -1000000, BAD = -1000001, FULL = -1000003, KIND = -1000013;
    private static final int MIN = Integer.MIN_VALUE, MAX = Integer.MAX_VALUE;
    private static final Check check = new Check("TestsTest");

    public static void main(String[] args) {
        promise11Test();
        promise12Move();
        promise12MoveRefusals();
        promise13Flow();
        promise14Kind();
        promise15As();
        promise16AskCost();
        promise16AskMark();
        promise16AskRefusals();
        promise17Trace();
        check.end();
    }

    private static void promise11Test() {
        TestFloor x = new TestFloor();
        int[][] bad = {{0, 1}, {-1, 1}, {1000, 1}, {MAX, 1}, {MIN, 1}, {1, 0}, {1, 16}, {1, -1}, {1, MAX}, {1, MIN}};
        for (int[] b : bad) {
            check.due("test(0, 0, " + b[0] + ", " + b[1] + ")", x.test(0, 0, b[0], b[1]), BAD);
        }
        check.due("count(1)", x.count(1), 0);
        check.due("test 0", x.test(MIN, MAX, 1, 15), 0);
        check.due("test 1", x.test(MAX, MIN, 999, 1), 1);
        x.move(1, 0);
        for (int k = 2; k < 10; k++) {
            check.due("test " + k, x.test(0, 0, 1, 1), k);
            check.due("count(1)", x.count(1), k + 1);
            check.due("flow(" + k + "): THE FLOW has it last", x.flow(k), k);
        }
        check.due("test 10", x.test(0, 0, 1, 1), FULL);
        check.due("test of time 0: BAD is ahead of FULL", x.test(0, 0, 0, 1), BAD);
        check.due("test of BIN 16: BAD is ahead of FULL", x.test(0, 0, 1, 16), BAD);
        check.due("count(1)", x.count(1), 10);
    }

    private static TestFloor floorOf(int tests) {
        TestFloor x = new TestFloor();
        for (int k = 0; k < tests; k++) {
            x.test(0, 0, 1, 1);
        }
        return x;
    }

    private static void flows(TestFloor x, String after, int... tests) {
        for (int place = 0; place < tests.length; place++) {
            check.due("flow(" + place + ") after " + after, x.flow(place), tests[place]);
        }
        check.due("flow(" + tests.length + ")", x.flow(tests.length), NONE);
    }

    private static void promise12Move() {
        TestFloor x = floorOf(5);
        check.due("move(0, 4)", x.move(0, 4), 0);
        flows(x, "move(0, 4)", 1, 2, 3, 4, 0);
        check.due("move(0, 1)", x.move(0, 1), 4);
        flows(x, "move(0, 1)", 1, 0, 2, 3, 4);
        check.due("move(3, 3)", x.move(3, 3), 3);
        flows(x, "move(3, 3)", 1, 0, 2, 3, 4);
        check.due("move(1, 2)", x.move(1, 2), 0);
        flows(x, "move(1, 2)", 0, 2, 1, 3, 4);
        check.due("move(4, 0)", x.move(4, 0), 4);
        flows(x, "move(4, 0)", 4, 0, 2, 1, 3);
        check.due("move(2, 3)", x.move(2, 3), 2);
        flows(x, "move(2, 3)", 4, 0, 1, 2, 3);
    }

    private static void promise12MoveRefusals() {
        TestFloor x = floorOf(3);
        x.move(2, 0);
        int[][] bad = {{-1, 0}, {3, 0}, {0, -1}, {0, 3}, {MAX, 0}, {0, MAX}, {MIN, 0}, {0, MIN}, {9, 9}};
        for (int[] b : bad) {
            check.due("move(" + b[0] + ", " + b[1] + ")", x.move(b[0], b[1]), BAD);
        }
        flows(x, "refusals", 2, 0, 1);
        TestFloor one = floorOf(1);
        check.due("move(0, 0)", one.move(0, 0), 0);
        check.due("move(0, 1)", one.move(0, 1), BAD);
    }

    private static void promise13Flow() {
        TestFloor x = new TestFloor();
        check.due("flow(0)", x.flow(0), NONE);
        x = floorOf(10);
        flows(x, "10 tests", 0, 1, 2, 3, 4, 5, 6, 7, 8, 9);
        check.due("flow(-1)", x.flow(-1), NONE);
        check.due("flow(MAX)", x.flow(MAX), NONE);
        check.due("flow(MIN)", x.flow(MIN), NONE);
    }

    private static TestFloor floorOfKinds() {
        TestFloor x = new TestFloor();
        x.test(0, 10, 10, 7);   // 0: TEST
        x.test(0, 10, 9, 6);    // 1: SHORT
        x.test(5, 5, 9, 5);     // 2: POINT
        x.test(6, 5, 9, 4);     // 3: OPEN, of little time
        x.test(6, 5, 10, 3);    // 4: OPEN
        x.test(5, 5, 10, 2);    // 5: TEST, low and high are one
        x.test(-5, -5, 1, 1);   // 6: POINT
        x.test(MIN, MAX, 1, 1); // 7: SHORT
        x.test(MAX, MIN, 1, 1); // 8: OPEN
        return x;
    }

    private static final int[] KINDS = {0, 1, 2, 3, 3, 0, 2, 1, 3};
    private static final int[] TIMES = {10, 9, 9, 9, 10, 10, 1, 1, 1};

    private static void promise14Kind() {
        TestFloor x = floorOfKinds();
        for (int test = 0; test < KINDS.length; test++) {
            check.due("kind(" + test + ")", x.kind(test), KINDS[test]);
        }
        check.due("kind(9)", x.kind(9), BAD);
        check.due("kind(-1)", x.kind(-1), BAD);
        check.due("kind(MAX)", x.kind(MAX), BAD);
    }

    private static void promise15As() {
        TestFloor x = floorOfKinds();
        boolean[][] isAlso = {{true, false, false, false}, {true, true, false, false}, {true, true, true, false},
            {true, false, false, true}};
        for (int test = 0; test < KINDS.length; test++) {
            for (int kind = 0; kind < 4; kind++) {
                String call = "as(" + test + ", " + kind + ")";
                check.due(call, x.as(test, kind), isAlso[KINDS[test]][kind] ? TIMES[test] : KIND);
                check.due("status() after " + call, x.status(), isAlso[KINDS[test]][kind] ? 0 : 3);
            }
        }
        x.as(0, 3);
        int[][] bad = {{-1, 0}, {9, 0}, {0, -1}, {0, 4}, {MAX, 0}, {0, MIN}};
        for (int[] b : bad) {
            check.due("as(" + b[0] + ", " + b[1] + ")", x.as(b[0], b[1]), BAD);
        }
        check.due("status()", x.status(), 3);
    }

    private static void asks(TestFloor x, int test, int what, int answer, int... bodies) {
        String call = "ask(" + test + ", " + what + ")";
        check.due(call, x.ask(test, what), answer);
        for (int i = 0; i < bodies.length; i++) {
            check.due("trace(" + i + ") after " + call, x.trace(i), bodies[i]);
        }
        check.due("trace(" + bodies.length + ") after " + call, x.trace(bodies.length), NONE);
    }

    private static void promise16AskCost() {
        TestFloor x = floorOfKinds();
        asks(x, 0, 0, 10, 10);
        asks(x, 1, 0, 18, 11, 10);
        asks(x, 2, 0, 18 + 105, 12, 11, 10, 21, 20);
        asks(x, 3, 0, 0, 13);
        asks(x, 4, 0, 0, 13);
        asks(x, 5, 0, 10, 10);
        asks(x, 6, 0, 2 + 101, 12, 11, 10, 21, 20);
    }

    private static void promise16AskMark() {
        TestFloor x = floorOfKinds();
        asks(x, 0, 1, 7, 20);
        asks(x, 1, 1, 106, 21, 20);
        asks(x, 2, 1, 105, 21, 20);
        asks(x, 3, 1, 5, 22, 20, 13);
        asks(x, 4, 1, 4, 22, 20, 13);
        asks(x, 5, 1, 2, 20);
    }

    private static void promise16AskRefusals() {
        TestFloor x = floorOfKinds();
        int[][] bad = {{-1, 0}, {9, 0}, {0, -1}, {0, 2}, {MAX, 0}, {0, MAX}, {MIN, MIN}};
        for (int[] b : bad) {
            check.due("ask(" + b[0] + ", " + b[1] + ")", x.ask(b[0], b[1]), BAD);
        }
        x.as(0, 3);
        x.ask(0, 0);
        check.due("status() after an ask", x.status(), 3);
    }

    private static void promise17Trace() {
        TestFloor x = floorOfKinds();
        check.due("trace(0)", x.trace(0), NONE);
        x.ask(2, 0);
        x.ask(9, 0);
        x.ask(0, 2);
        check.due("trace(0) after a refusal", x.trace(0), 12);
        check.due("trace(4) after a refusal", x.trace(4), 20);
        check.due("trace(5)", x.trace(5), NONE);
        check.due("trace(-1)", x.trace(-1), NONE);
        check.due("trace(16)", x.trace(16), NONE);
        check.due("trace(MAX)", x.trace(MAX), NONE);
        check.due("trace(MIN)", x.trace(MIN), NONE);
        for (int k = 0; k < 30; k++) {
            asks(x, 2, 0, 123, 12, 11, 10, 21, 20);
        }
        asks(x, 0, 0, 10, 10);
    }
}
