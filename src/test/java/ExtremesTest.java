/**
 * No call ever throws, whatever its numbers are, in any state; the CONSTANTS of the face are as told; and the 512th call
 * is answered like all ahead of it.
 */
public final class ExtremesTest {
    private static final int[] NUMBERS = {Integer.MIN_VALUE, Integer.MIN_VALUE + 1, -1000001, -1000000, -999999, -1001,
        -1000, -4, -3, -2, -1, 0, 1, 2, 3, 4, 5, 6, 7, 8, 9, 10, 11, 12, 13, 15, 16, 40, 41, 59, 60, 61, 99, 100, 101,
        199, 200, 399, 400, 999, 1000, 1001, 65534, 65535, 65536, 99999, 100000, Integer.MAX_VALUE - 1,
        Integer.MAX_VALUE};
    private static final Check check = new Check("ExtremesTest");
    private static final String TEXT = "01LHX;;;(()))) \n239a";

    public static void main(String[] args) {
        Dice dice = new Dice(7);
        int calls = 0;
        for (int run = 0; run < 3000; run++) {
            TestFloor x = new TestFloor();
            fill(x, dice, run);
            for (int n = 0; n < 400; n++) {
                call(x, dice, dice.below(36));
                calls++;
            }
        }
        lastOf512Calls();
        check.due("NONE", TestFloor.NONE, -1000000);
        check.due("BAD", TestFloor.BAD, -1000001);
        check.due("STATE", TestFloor.STATE, -1000002);
        check.due("FULL", TestFloor.FULL, -1000003);
        System.out.println("ExtremesTest: " + calls + " calls, none threw");
        check.end();
    }

    /** "An object is used for at most 512 calls": the dearest ones, and then the last twelve. */
    private static void lastOf512Calls() {
        TestFloor x = new TestFloor();
        x.test(1, 1, 999, 2);
        x.sheet(0, 2, 1);
        x.law(0xfffe, 4);
        Check.tape(x, "100(100(10(HHHHHXXX;)))");
        check.due("pattern()", x.pattern(), 100000);
        for (int k = 0; k < 200; k++) {
            check.due("chip(0, " + k % 8 + ")", x.chip(0, k % 8), k);
        }
        for (int k = 0; k < 100; k++) {
            check.due("compare(0, 2)", x.compare(0, 2), 500000);
        }
        for (int k = 0; k < 100; k++) {
            check.due("best(2)", x.best(2), 0);
        }
        for (int k = 0; k < 93; k++) {
            check.due("set(0, 0, " + k + ")", x.set(0, 0, k), k);
        }
        check.due("set(0, 0, 0), call 501", x.set(0, 0, 0), 0);
        check.due("chip(0, 0), call 502", x.chip(0, 0), TestFloor.FULL);
        check.due("told(199, 2), call 503", x.told(199, 2), 3996);
        check.due("compare(0, 1), call 504", x.compare(0, 1), 0);
        check.due("sign(99999, 7), call 505", x.sign(99999, 7), 'X');
        check.due("order(), call 506", x.order(), 9990);
        check.due("bins(2), call 507", x.bins(2), 200);
        check.due("held(0, 199), call 508", x.held(0, 199), 1);
        check.due("lot(), call 509", x.lot(), 200);
        check.due("chance(0, 0), call 510", x.chance(0, 0), TestFloor.STATE);
        check.due("status(), call 511", x.status(), 0);
        check.due("count(2), call 512", x.count(2), 200);
    }

    private static void fill(TestFloor x, Dice dice, int run) {
        for (int k = 0; k < run % 9; k++) {
            x.sheet(k, k % 3, dice.below(101));
        }
        for (int k = 0; k < run % 11; k++) {
            x.test(dice.below(5) - 3, dice.below(5), 1 + dice.below(20), 1 + dice.below(15));
        }
        String[] texts = {"2(1;3(L;)H;)", "", "4()", "999(100(LHX01;))", "2(2(2(2(2(2(LLLLLLLL;))))))"};
        Check.tape(x, texts[run % 5]);
        x.pattern();
    }

    private static int any(Dice dice) {
        int luck = dice.below(8);
        return luck == 0 ? dice.next() : luck < 4 ? dice.below(8) : NUMBERS[dice.below(NUMBERS.length)];
    }

    private static void call(TestFloor x, Dice dice, int which) {
        int a = any(dice);
        int b = any(dice);
        int c = any(dice);
        int d = any(dice);
        switch (which) {
            case 0 -> x.sheet(a, b, c);
            case 1 -> x.set(a, b, c);
            case 2 -> x.copy(a, b, c, d, any(dice));
            case 3 -> x.drop(a);
            case 4 -> x.feed((long) a << 32 ^ b, c);
            case 5 -> x.pattern();
            case 6 -> x.fault();
            case 7 -> x.sign(a, b);
            case 8 -> x.compare(a, b);
            case 9 -> x.test(a, b, c, d);
            case 10 -> x.move(a, b);
            case 11 -> x.flow(a);
            case 12 -> x.kind(a);
            case 13 -> x.as(a, b);
            case 14 -> x.ask(a, b);
            case 15 -> x.trace(a);
            case 16 -> x.seat(a, b);
            case 17 -> x.dead(a);
            case 18 -> x.law(a, b);
            case 19 -> x.chip(a, b);
            case 20 -> x.told(a, b);
            case 21 -> x.share(a, b);
            case 22 -> x.mean();
            case 23 -> x.order();
            case 24 -> x.edge(a, b, c, d);
            case 25 -> x.die(a, b, c, d);
            case 26 -> x.odd(a, b, c);
            case 27 -> x.join(a, b, c);
            case 28 -> x.best(a);
            case 29 -> x.lot();
            case 30 -> x.bins(a);
            case 31 -> x.held(a, b);
            case 32 -> x.chance(a, b);
            case 33 -> x.count(a);
            case 34 -> x.status();
            default -> x.feed(TEXT.charAt(dice.below(TEXT.length())), 1);
        }
    }
}
