/** Promises 6 to 10: the tape, PATTERNS and their FAULTS, SIGNS, compare. */
public final class PatternsTest {
    private static final int NONE = -1000000, BAD = -1000001, STATE = -1000002, FULL = -1000003;
    private static final int NULL = -1000011, PLACE = -1000012;
    private static final Check check = new Check("PatternsTest");

    public static void main(String[] args) {
        promise06Feed();
        promise06FeedIsFull();
        promise07Patterns();
        promise07FaultsLeaveThePattern();
        promise07Faults();
        promise07FaultsOfTooMuch();
        promise07LoopsOfNothing();
        promise08Fault();
        promise09Sign();
        promise09SignsOfLoops();
        promise10Compare();
        promise10CompareRefusals();
        promise10CompareOfLoops();
        check.end();
    }

    private static void promise06Feed() {
        TestFloor x = new TestFloor();
        for (int n : new int[] {0, -1, 9, Integer.MIN_VALUE, Integer.MAX_VALUE}) {
            check.due("feed(0, " + n + ")", x.feed(0, n), BAD);
        }
        check.due("count(7)", x.count(7), 0);
        check.due("feed of 01;", x.feed(0x7f30313bL, 3), 3);
        check.due("feed of HL;", x.feed(0x484c3bL, 3), 6);
        check.due("count(7)", x.count(7), 6);
        check.due("pattern()", x.pattern(), 2);
        check.due("sign(0, 0)", x.sign(0, 0), '0');
        check.due("sign(0, 1)", x.sign(0, 1), '1');
        check.due("sign(1, 0)", x.sign(1, 0), 'H');
        check.due("sign(1, 1)", x.sign(1, 1), 'L');
        check.due("feed of XXXXXXX;", x.feed(0x585858585858583bL, 8), 8);
        check.due("pattern()", x.pattern(), 1);
        check.due("sign(0, 6)", x.sign(0, 6), 'X');
        check.due("feed of a byte of 176, no figure", x.feed(0xb0313bL, 3), 3);
        check.due("pattern()", x.pattern(), -1000100);
        check.due("feed(-1, 8)", x.feed(-1L, 8), 8);
        check.due("pattern()", x.pattern(), -1000100);
    }

    private static void promise06FeedIsFull() {
        TestFloor x = new TestFloor();
        for (int k = 1; k < 50; k++) {
            check.due("feed of blanks", x.feed(0x2020202020202020L, 8), 8 * k);
        }
        check.due("feed to 399", x.feed(0x20202020202020L, 7), 399);
        check.due("feed beyond 400", x.feed(0x2020L, 2), FULL);
        check.due("feed(0, 9): BAD is ahead of FULL", x.feed(0, 9), BAD);
        check.due("count(7)", x.count(7), 399);
        check.due("feed to 400", x.feed(')', 1), 400);
        check.due("feed to 401", x.feed(' ', 1), FULL);
        check.due("pattern() to the last byte", x.pattern(), -1000100 - 399);
        check.due("count(7)", x.count(7), 0);
        Check.tape(x, "1;".repeat(200));
        check.due("count(7)", x.count(7), 400);
        check.due("pattern() of 200 LINES", x.pattern(), 200);
        check.due("count(6)", x.count(6), 200);
        check.due("sign(199, 0)", x.sign(199, 0), '1');
        Check.tape(x, "1(1(1(1(1(1(1;))))))".repeat(20));
        check.due("pattern() of loops on all of the tape", x.pattern(), 20);
        check.due("sign(19, 0)", x.sign(19, 0), '1');
        check.due("sign(20, 0)", x.sign(20, 0), NONE);
    }

    private static void reads(TestFloor x, String text, int cycles, int pins, int lines) {
        Check.tape(x, text);
        check.due("pattern() of " + text, x.pattern(), cycles);
        check.due("count(5) of " + text, x.count(5), pins);
        check.due("count(6) of " + text, x.count(6), lines);
        check.due("count(7) of " + text, x.count(7), 0);
    }

    private static void promise07Patterns() {
        TestFloor x = new TestFloor();
        reads(x, "0;", 1, 1, 1);
        reads(x, "01LHX01L;", 1, 8, 1);
        reads(x, "", 0, 0, 0);
        reads(x, " \n ", 0, 0, 0);
        reads(x, "2(1;)", 2, 1, 1);
        reads(x, "002(1;)", 2, 1, 1);
        reads(x, "010(1;)", 10, 1, 1);
        reads(x, "111(111;)", 111, 3, 1);
        reads(x, "2 (1;)", 2, 1, 1);
        reads(x, "2\n  (\n1;\n1;\n)\n", 4, 1, 2);
        reads(x, "2(1;3(0;1;)X;)1;", 17, 1, 5);
        reads(x, "2(3(4(1;)))", 24, 1, 1);
        reads(x, "999(100(1;))100(1;)", 100000, 1, 2);
        reads(x, "1(2(2(5(5(1;)))))", 100, 1, 1);
        reads(x, "1;2(1;)1;", 4, 1, 3);
    }

    private static void faults(TestFloor x, String text, int number, int place) {
        Check.tape(x, text);
        check.due("pattern() of " + text, x.pattern(), -1000100 - place);
        check.due("fault() of " + text, x.fault(), number);
        check.due("count(7) of " + text, x.count(7), 0);
    }

    private static void promise07FaultsLeaveThePattern() {
        TestFloor x = new TestFloor();
        reads(x, "2(01;)HX;", 3, 2, 2);
        faults(x, "LLL;9(LLL;)0(", 3, 11);
        check.due("count(5)", x.count(5), 2);
        check.due("count(6)", x.count(6), 2);
        check.due("sign(2, 0)", x.sign(2, 0), 'H');
        check.due("sign(1, 1)", x.sign(1, 1), '1');
        check.due("sign(3, 0)", x.sign(3, 0), NONE);
        reads(x, "", 0, 0, 0);
        check.due("sign(0, 0)", x.sign(0, 0), NONE);
        faults(x, "1;)", 1, 2);
        check.due("sign(0, 0)", x.sign(0, 0), NONE);
    }

    private static void promise07Faults() {
        TestFloor x = new TestFloor();
        faults(x, ")", 1, 0);
        faults(x, "1;)", 1, 2);
        faults(x, "2(1;))", 1, 5);
        faults(x, ";", 1, 0);
        faults(x, "1;;", 1, 2);
        faults(x, "(", 1, 0);
        faults(x, "1;(1;)", 1, 2);
        faults(x, "()", 1, 0);
        faults(x, "2((1;))", 1, 2);
        faults(x, "2(", 1, 2);
        faults(x, "2(1;", 1, 4);
        faults(x, "2(1; \n ", 1, 7);
        faults(x, "2(3(1;)", 1, 7);
        faults(x, "2", 1, 0);
        faults(x, "1; 2 ", 1, 3);
        faults(x, "2(3", 1, 2);
        faults(x, "01 ;", 1, 0);
        faults(x, "0 1;", 1, 0);
        faults(x, "012;", 1, 0);
        faults(x, "1;19;", 1, 2);
        faults(x, "000000000;", 1, 0);
        faults(x, "1;000000000;", 1, 2);
        faults(x, "1000(1;)", 1, 0);
        faults(x, "0000(1;)", 1, 0);
        faults(x, "0001(1;)", 1, 0);
        faults(x, "L(1;)", 1, 0);
        faults(x, "1H(1;)", 1, 0);
        faults(x, "2X 3(1;)", 1, 0);
        faults(x, "a", 1, 0);
        faults(x, "1;l;", 1, 2);
        faults(x, "1a;", 1, 0);
        faults(x, "2a(1;)", 1, 0);
        faults(x, "1;\t1;", 1, 2);
        faults(x, "1;\r", 1, 2);
        faults(x, "0(1;)", 3, 0);
        faults(x, "00 (1;)", 3, 0);
        faults(x, "000(1;)", 3, 0);
        faults(x, "1; 0", 1, 3);
        faults(x, "1; 0 1;", 1, 3);
        faults(x, "01;1;", 2, 3);
        faults(x, "1;01;", 2, 2);
        faults(x, "2(1;) 3(01;)", 2, 8);
        faults(x, "2(1;) 3(0000000L;)", 2, 8);
        faults(x, "01;1;)", 2, 3);
    }

    private static void promise07FaultsOfTooMuch() {
        TestFloor x = new TestFloor();
        reads(x, "1(1(1(1(1(1(1;))))))", 1, 1, 1);
        faults(x, "1(1(1(1(1(1(1(1;)))))))", 4, 12);
        faults(x, "1(1(1(1(1(1( 2 (1;)))))))", 4, 13);
        faults(x, "1(1(1(1(1(1(0(1;)))))))", 3, 12);
        faults(x, "1(1(1(1(1(1(2;)))))))", 1, 12);
        faults(x, "1(1(1(1(1(1(2)))))))", 1, 12);
        reads(x, "1(1(1(1(1(1(1;)))))1(1(1(1(1(1;))))))", 2, 1, 2);
        reads(x, "100(500(1;))500(50(1;)50(1;))", 100000, 1, 3);
        faults(x, "100(500(1;))500(50(1;)50(1;))1;", 4, 29);
        faults(x, "100(500(1;))500(50(1;)51(1;))", 4, 28);
        faults(x, "999(999(1;))", 4, 11);
        faults(x, "2(999(100(1;))101(1;))", 4, 20);
        reads(x, "1(999(100(1;))100(1;))", 100000, 1, 2);
        faults(x, "2(999(100(1;))100(1;))", 4, 21);
        faults(x, "1(999(100(1;))101(1;))", 4, 20);
        faults(x, "1(999(100(1;))100(1;)1;)", 4, 21);
        faults(x, "999(100(1;))100(1;)01;", 2, 19);
        faults(x, "999(100(1;))100(1;) 1 ;", 1, 20);
        faults(x, "999(999(999(999(999(1;)))))", 4, 23);
        reads(x, "999(100(1;))100(1;)9( )", 100000, 1, 2);
        reads(x, "999(100(1;))99(1;)1;", 100000, 1, 3);
        reads(x, "1(999(100(1;))99(1;)1;)", 100000, 1, 3);
        faults(x, "999(100(1;))99(1;)1; 1;", 4, 21);
    }

    private static void promise07LoopsOfNothing() {
        TestFloor x = new TestFloor();
        reads(x, "2()", 0, 0, 0);
        reads(x, "2( \n )1;", 1, 1, 1);
        reads(x, "999(999(999(999(999(999())))))", 0, 0, 0);
        reads(x, "1;999(999(999(999(999(999())))))0;", 2, 1, 2);
        check.due("sign(1, 0)", x.sign(1, 0), '0');
        reads(x, "2(3()1;3()0;3(4()))L;", 5, 1, 3);
        String signs = "1010L";
        for (int cycle = 0; cycle < 5; cycle++) {
            check.due("sign(" + cycle + ", 0)", x.sign(cycle, 0), signs.charAt(cycle));
        }
        Check.sheetOf(x, 0, 0);
        compares(x, 0, NONE, NONE, 0);
        Check.sheetOf(x, 0, 1);
        compares(x, 0, 4, 0, 1);
        reads(x, "999(100(L;" + "1()".repeat(126) + "))", 99900, 1, 1);
        compares(x, 0, 0, 0, 99900);
        reads(x, "1()".repeat(60) + "H;" + "9(1()1())".repeat(20), 1, 1, 1);
        Check.sheetOf(x, 0, 0);
        compares(x, 0, 0, 0, 1);
    }

    private static void promise08Fault() {
        TestFloor x = new TestFloor();
        check.due("fault()", x.fault(), 0);
        reads(x, "1;", 1, 1, 1);
        check.due("fault() after a PATTERN", x.fault(), 0);
        faults(x, "01;1;", 2, 3);
        reads(x, "1;", 1, 1, 1);
        check.due("fault(): the latest one stays", x.fault(), 2);
        faults(x, "0(1;)", 3, 0);
        faults(x, "1", 1, 0);
        faults(x, "999(999(1;))", 4, 11);
        x.feed(0, 9);
        check.due("fault() after a refusal", x.fault(), 4);
    }

    private static void promise09Sign() {
        TestFloor x = new TestFloor();
        reads(x, "01LHX01L; LLLLLLLH;", 2, 8, 2);
        String[] lines = {"01LHX01L", "LLLLLLLH"};
        for (int cycle = 0; cycle < 2; cycle++) {
            for (int pin = 0; pin < 8; pin++) {
                check.due("sign(" + cycle + ", " + pin + ")", x.sign(cycle, pin), lines[cycle].charAt(pin));
            }
        }
        int[][] none = {{2, 0}, {0, 8}, {-1, 0}, {0, -1}, {Integer.MAX_VALUE, 0}, {0, Integer.MIN_VALUE},
            {Integer.MIN_VALUE, 0}, {0, Integer.MAX_VALUE}};
        for (int[] n : none) {
            check.due("sign(" + n[0] + ", " + n[1] + ")", x.sign(n[0], n[1]), NONE);
        }
    }

    private static void promise09SignsOfLoops() {
        TestFloor x = new TestFloor();
        reads(x, "1;2(0;3(L;H;)2(X;))2(2(1;)L;)0;", 26, 1, 8);
        StringBuilder signs = new StringBuilder("1");
        signs.append("0LHLHLHXX".repeat(2)).append("11L".repeat(2)).append("0");
        for (int cycle = 0; cycle < signs.length(); cycle++) {
            check.due("sign(" + cycle + ", 0)", x.sign(cycle, 0), signs.charAt(cycle));
        }
        check.due("sign(26, 0)", x.sign(26, 0), NONE);
        reads(x, "999(99(L;)H;)100(X;)", 100000, 1, 3);
        check.due("sign(98, 0)", x.sign(98, 0), 'L');
        check.due("sign(99, 0)", x.sign(99, 0), 'H');
        check.due("sign(99899, 0)", x.sign(99899, 0), 'H');
        check.due("sign(99900, 0)", x.sign(99900, 0), 'X');
        check.due("sign(99999, 0)", x.sign(99999, 0), 'X');
        check.due("sign(100000, 0)", x.sign(100000, 0), NONE);
    }

    private static void compares(TestFloor x, int sheet, int cycle, int pin, int all) {
        check.due("compare(" + sheet + ", 0)", x.compare(sheet, 0), cycle);
        check.due("compare(" + sheet + ", 1)", x.compare(sheet, 1), pin);
        check.due("compare(" + sheet + ", 2)", x.compare(sheet, 2), all);
    }

    private static void promise10Compare() {
        TestFloor x = new TestFloor();
        reads(x, "01X;LLL;HHH;LHX;", 4, 3, 4);
        Check.sheetOf(x, 0, 7, 0, 7, 2);
        compares(x, 0, NONE, NONE, 0);
        Check.sheetOf(x, 0, 0, 0, -1, -2);
        compares(x, 0, NONE, NONE, 0);
        Check.sheetOf(x, 0, 0, 4, 1, 1);
        compares(x, 0, 1, 2, 5);
        Check.sheetOf(x, 0, 0, 6, 7, 2);
        compares(x, 0, 1, 1, 2);
        Check.sheetOf(x, 0, 0, 0, 3, 2);
        compares(x, 0, 2, 2, 1);
        Check.sheetOf(x, 0, 7, 0);
        // ITEMS 7 0 7 0, for CYCLES 0 to 3
        compares(x, 0, 3, 1, 1);
        Check.sheetOf(x, 0, 2, 0, 7, 1, 0, 0, 0);
        compares(x, 0, 3, 0, 2);
        reads(x, "HHHHHHHH;LLLLLLLL;", 2, 8, 2);
        x.sheet(1, 0, 2);
        x.set(1, 0, 127);
        x.set(1, 1, -128);
        compares(x, 1, 0, 7, 2);
        x.set(1, 0, 255);
        compares(x, 1, 1, 7, 1);
    }

    private static void promise10CompareRefusals() {
        TestFloor x = new TestFloor();
        x.sheet(0, 0, 0);
        check.due("compare(0, 0) without a PATTERN", x.compare(0, 0), STATE);
        check.due("compare(5, 0): STATE is ahead of NULL", x.compare(5, 0), STATE);
        check.due("compare(-1, 0)", x.compare(-1, 0), BAD);
        check.due("compare(8, 0)", x.compare(8, 0), BAD);
        check.due("compare(0, -1)", x.compare(0, -1), BAD);
        check.due("compare(0, 3)", x.compare(0, 3), BAD);
        reads(x, "3()", 0, 0, 0);
        check.due("compare(0, 0) without CYCLES", x.compare(0, 0), STATE);
        reads(x, "X;", 1, 1, 1);
        check.due("compare(5, 0)", x.compare(5, 0), NULL);
        check.due("compare(0, 2)", x.compare(0, 2), PLACE);
        x.sheet(0, 0, 1);
        compares(x, 0, NONE, NONE, 0);
        reads(x, "", 0, 0, 0);
        check.due("compare(0, 0) without CYCLES again", x.compare(0, 0), STATE);
    }

    private static void promise10CompareOfLoops() {
        TestFloor x = new TestFloor();
        reads(x, "999(99(L;)H;)100(L;)", 100000, 1, 3);
        Check.sheetOf(x, 0, 0);
        compares(x, 0, 99, 0, 999);
        Check.sheetOf(x, 0, 1);
        compares(x, 0, 0, 0, 999 * 99 + 100);
        int[] hundred = new int[100];
        hundred[99] = 1;
        Check.sheetOf(x, 0, hundred);
        compares(x, 0, 99999, 0, 1);
        hundred[98] = 1;
        Check.sheetOf(x, 0, hundred);
        compares(x, 0, 98, 0, 1001);
        reads(x, "100(2(LLLLLLLL;499(HHHHHHHH;)))", 100000, 8, 2);
        Check.sheetOf(x, 0, 0);
        compares(x, 0, 1, 0, 8 * 99800);
        reads(x, "1(2(1(2(1(2(L;X;))H;)))L;)", 21, 1, 4);
        // by turns LXLX H LXLX H LXLX H LXLX H and L
        Check.sheetOf(x, 0, 0);
        compares(x, 0, 4, 0, 4);
        Check.sheetOf(x, 0, 1);
        compares(x, 0, 0, 0, 9);
        // out of six loops, and into six
        reads(x, "1(1(1(1(1(1(L;))))))2(1(1(1(1(2(L;))))))", 5, 1, 2);
        compares(x, 0, 0, 0, 5);
        Check.sheetOf(x, 0, 0, 0, 0, 0, 1);
        compares(x, 0, 4, 0, 1);
    }
}
