/** Promises 6 to 10: the tape, PATTERNS and their FAULTS, SIGNS, compare. */
public final class PatternsTest {
    private static final int NONE = -1000000, BAD = -1000001, STATE = -1000002, FULL = -1000003;
    private static final int NULL = -1000011, PLACE = -1000012;
    private static final int MIN = Integer.MIN_VALUE, MAX = Integer.MAX_VALUE;
    private static final Check check = new Check("PatternsTest");

    public static void main(String[] args) {
        promise06Feed();
        promise06FeedIsFull();
        promise06LowestBytes();
        promise06NoneComesWhenFull();
        promise07Patterns();
        promise07FaultsLeaveThePattern();
        promise07Faults();
        promise07FaultsOfTooMuch();
        promise07LoopsOfNothing();
        promise07AllBytes();
        promise07AllNumbers();
        promise07SignsOfALine();
        promise07OtherPins();
        promise07BlanksBetweenTokens();
        promise07TheEnd();
        promise07AllOfTheTape();
        promise07SixWithinOneAnother();
        promise07MostCyclesByLines();
        promise07MostCyclesByLoops();
        promise07MostCyclesOutsideOfAll();
        promise07FirstFaultOfSeveral();
        promise07EachFaultLeavesThePattern();
        promise07FaultsLeaveNoPattern();
        promise08Fault();
        promise08LatestFault();
        promise09Sign();
        promise09SignsOfLoops();
        promise09FirstAndLastSigns();
        promise09NoneOfNoCycles();
        promise10Compare();
        promise10CompareRefusals();
        promise10CompareOfLoops();
        promise10EachSignAtEachBit();
        promise10EachPin();
        promise10FirstAndLastCycle();
        promise10ItemsByTurns();
        promise10MostOfAll();
        promise10FarNumbers();
        check.end();
    }

    private static void promise06Feed() {
        TestFloor x = new TestFloor();
        for (int n : new int[] {0, -1, 9, Integer.MIN_VALUE, Integer.MAX_VALUE}) {
            check.due("feed(0, " + n + ")", x.feed(0, n), BAD);
        }
        check.due("count(7)", x.count(7), 0);
        check.due("feed of 01;", x.feed(0x7f30313bL, 3), 3);
        check.due("feed of HL;", x.feed(0x484c3bL, 3), 6);
        check.due("count(7)", x.count(7), 6);
        check.due("pattern()", x.pattern(), 2);
        check.due("sign(0, 0)", x.sign(0, 0), '0');
        check.due("sign(0, 1)", x.sign(0, 1), '1');
        check.due("sign(1, 0)", x.sign(1, 0), 'H');
        check.due("sign(1, 1)", x.sign(1, 1), 'L');
        check.due("feed of XXXXXXX;", x.feed(0x585858585858583bL, 8), 8);
        check.due("pattern()", x.pattern(), 1);
        check.due("sign(0, 6)", x.sign(0, 6), 'X');
        check.due("feed of a byte of 176, no figure", x.feed(0xb0313bL, 3), 3);
        check.due("pattern()", x.pattern(), -1000100);
        check.due("feed(-1, 8)", x.feed(-1L, 8), 8);
        check.due("pattern()", x.pattern(), -1000100);
    }

    private static void promise06FeedIsFull() {
        TestFloor x = new TestFloor();
        for (int k = 1; k < 50; k++) {
            check.due("feed of blanks", x.feed(0x2020202020202020L, 8), 8 * k);
        }
        check.due("feed to 399", x.feed(0x20202020202020L, 7), 399);
        check.due("feed beyond 400", x.feed(0x2020L, 2), FULL);
        check.due("feed(0, 9): BAD is ahead of FULL", x.feed(0, 9), BAD);
        check.due("count(7)", x.count(7), 399);
        check.due("feed to 400", x.feed(')', 1), 400);
        check.due("feed to 401", x.feed(' ', 1), FULL);
        check.due("pattern() to the last byte", x.pattern(), -1000100 - 399);
        check.due("count(7)", x.count(7), 0);
        Check.tape(x, "1;".repeat(200));
        check.due("count(7)", x.count(7), 400);
        check.due("pattern() of 200 LINES", x.pattern(), 200);
        check.due("count(6)", x.count(6), 200);
        check.due("sign(199, 0)", x.sign(199, 0), '1');
        Check.tape(x, "1(1(1(1(1(1(1;))))))".repeat(20));
        check.due("pattern() of loops on all of the tape", x.pattern(), 20);
        check.due("sign(19, 0)", x.sign(19, 0), '1');
        check.due("sign(20, 0)", x.sign(20, 0), NONE);
    }

    /** "The lowest n bytes of w (1 to 8), the highest of them first". */
    private static void promise06LowestBytes() {
        String text = "01LHX01;";
        for (int n = 1; n <= 8; n++) {
            TestFloor x = new TestFloor();
            check.due("feed of " + n + " bytes", x.feed(0x30314c485830313bL, n), n);
            if (n == 1) {
                check.due("pattern() of ;", x.pattern(), -1000100);
                continue;
            }
            check.due("pattern() of " + n + " bytes", x.pattern(), 1);
            check.due("count(5) of " + n + " bytes", x.count(5), n - 1);
            for (int pin = 0; pin < n - 1; pin++) {
                check.due("sign(0, " + pin + ")", x.sign(0, pin), text.charAt(8 - n + pin));
            }
        }
        TestFloor x = new TestFloor();
        for (int n : new int[] {MIN, MIN + 1, -8, -1, 0, 9, 16, MAX}) {
            for (long w : new long[] {0, -1, Long.MIN_VALUE, Long.MAX_VALUE}) {
                check.due("feed(" + w + ", " + n + ")", x.feed(w, n), BAD);
            }
        }
        check.due("count(7)", x.count(7), 0);
        check.due("feed(MIN, 7): seven bytes of 0", x.feed(Long.MIN_VALUE, 7), 7);
        check.due("feed(MAX, 1): a byte of 255", x.feed(Long.MAX_VALUE, 1), 8);
        check.due("feed of 0; with all bits above", x.feed(0xffffffffffff303bL, 2), 10);
        check.due("pattern()", x.pattern(), -1000100);
        check.due("feed of 0; with all bits above", x.feed(0xffffffffffff303bL, 2), 2);
        check.due("pattern()", x.pattern(), 1);
    }

    /** "THE TAPE has at most 400 bytes"; "FULL: none comes", also where a part of them would go. */
    private static void promise06NoneComesWhenFull() {
        TestFloor x = new TestFloor();
        Check.tape(x, "1;".repeat(198));
        check.due("count(7)", x.count(7), 396);
        for (int n = 5; n <= 8; n++) {
            check.due("feed of " + n + " bytes to 396", x.feed(0x303b303b303b303bL, n), FULL);
        }
        check.due("count(7)", x.count(7), 396);
        check.due("feed of 4 bytes to 396", x.feed(0x4c3b483bL, 4), 400);
        for (int n = 1; n <= 8; n++) {
            check.due("feed of " + n + " bytes to 400", x.feed(0x303b303b303b303bL, n), FULL);
        }
        check.due("feed of 0 bytes to 400: BAD is ahead of FULL", x.feed(0, 0), BAD);
        check.due("feed of 9 bytes to 400: BAD is ahead of FULL", x.feed(0, 9), BAD);
        check.due("pattern()", x.pattern(), 200);
        check.due("sign(197, 0)", x.sign(197, 0), '1');
        check.due("sign(198, 0)", x.sign(198, 0), 'L');
        check.due("sign(199, 0)", x.sign(199, 0), 'H');
        check.due("feed: the tape is empty again", x.feed(0x303b303b303b303bL, 8), 8);
        for (int k = 2; k <= 50; k++) {
            check.due("feed of 8 bytes", x.feed(0x303b303b303b303bL, 8), 8 * k);
        }
        check.due("feed of 8 bytes to 400", x.feed(0x303b303b303b303bL, 8), FULL);
    }

    private static void reads(TestFloor x, String text, int cycles, int pins, int lines) {
        Check.tape(x, text);
        check.due("pattern() of " + text, x.pattern(), cycles);
        check.due("count(5) of " + text, x.count(5), pins);
        check.due("count(6) of " + text, x.count(6), lines);
        check.due("count(7) of " + text, x.count(7), 0);
    }

    private static void promise07Patterns() {
        TestFloor x = new TestFloor();
        reads(x, "0;", 1, 1, 1);
        reads(x, "01LHX01L;", 1, 8, 1);
        reads(x, "", 0, 0, 0);
        reads(x, " \n ", 0, 0, 0);
        reads(x, "2(1;)", 2, 1, 1);
        reads(x, "002(1;)", 2, 1, 1);
        reads(x, "010(1;)", 10, 1, 1);
        reads(x, "111(111;)", 111, 3, 1);
        reads(x, "2 (1;)", 2, 1, 1);
        reads(x, "2\n  (\n1;\n1;\n)\n", 4, 1, 2);
        reads(x, "2(1;3(0;1;)X;)1;", 17, 1, 5);
        reads(x, "2(3(4(1;)))", 24, 1, 1);
        reads(x, "999(100(1;))100(1;)", 100000, 1, 2);
        reads(x, "1(2(2(5(5(1;)))))", 100, 1, 1);
        reads(x, "1;2(1;)1;", 4, 1, 3);
    }

    private static void faults(TestFloor x, String text, int number, int place) {
        Check.tape(x, text);
        check.due("pattern() of " + text, x.pattern(), -1000100 - place);
        check.due("fault() of " + text, x.fault(), number);
        check.due("count(7) of " + text, x.count(7), 0);
    }

    private static void promise07FaultsLeaveThePattern() {
        TestFloor x = new TestFloor();
        reads(x, "2(01;)HX;", 3, 2, 2);
        faults(x, "LLL;9(LLL;)0(", 3, 11);
        check.due("count(5)", x.count(5), 2);
        check.due("count(6)", x.count(6), 2);
        check.due("sign(2, 0)", x.sign(2, 0), 'H');
        check.due("sign(1, 1)", x.sign(1, 1), '1');
        check.due("sign(3, 0)", x.sign(3, 0), NONE);
        reads(x, "", 0, 0, 0);
        check.due("sign(0, 0)", x.sign(0, 0), NONE);
        faults(x, "1;)", 1, 2);
        check.due("sign(0, 0)", x.sign(0, 0), NONE);
    }

    private static void promise07Faults() {
        TestFloor x = new TestFloor();
        faults(x, ")", 1, 0);
        faults(x, "1;)", 1, 2);
        faults(x, "2(1;))", 1, 5);
        faults(x, ";", 1, 0);
        faults(x, "1;;", 1, 2);
        faults(x, "(", 1, 0);
        faults(x, "1;(1;)", 1, 2);
        faults(x, "()", 1, 0);
        faults(x, "2((1;))", 1, 2);
        faults(x, "2(", 1, 2);
        faults(x, "2(1;", 1, 4);
        faults(x, "2(1; \n ", 1, 7);
        faults(x, "2(3(1;)", 1, 7);
        faults(x, "2", 1, 0);
        faults(x, "1; 2 ", 1, 3);
        faults(x, "2(3", 1, 2);
        faults(x, "01 ;", 1, 0);
        faults(x, "0 1;", 1, 0);
        faults(x, "012;", 1, 0);
        faults(x, "1;19;", 1, 2);
        faults(x, "000000000;", 1, 0);
        faults(x, "1;000000000;", 1, 2);
        faults(x, "1000(1;)", 1, 0);
        faults(x, "0000(1;)", 1, 0);
        faults(x, "0001(1;)", 1, 0);
        faults(x, "L(1;)", 1, 0);
        faults(x, "1H(1;)", 1, 0);
        faults(x, "2X 3(1;)", 1, 0);
        faults(x, "a", 1, 0);
        faults(x, "1;l;", 1, 2);
        faults(x, "1a;", 1, 0);
        faults(x, "2a(1;)", 1, 0);
        faults(x, "1;\t1;", 1, 2);
        faults(x, "1;\r", 1, 2);
        faults(x, "0(1;)", 3, 0);
        faults(x, "00 (1;)", 3, 0);
        faults(x, "000(1;)", 3, 0);
        faults(x, "1; 0", 1, 3);
        faults(x, "1; 0 1;", 1, 3);
        faults(x, "01;1;", 2, 3);
        faults(x, "1;01;", 2, 2);
        faults(x, "2(1;) 3(01;)", 2, 8);
        faults(x, "2(1;) 3(0000000L;)", 2, 8);
        faults(x, "01;1;)", 2, 3);
    }

    private static void promise07FaultsOfTooMuch() {
        TestFloor x = new TestFloor();
        reads(x, "1(1(1(1(1(1(1;))))))", 1, 1, 1);
        faults(x, "1(1(1(1(1(1(1(1;)))))))", 4, 12);
        faults(x, "1(1(1(1(1(1( 2 (1;)))))))", 4, 13);
        faults(x, "1(1(1(1(1(1(0(1;)))))))", 3, 12);
        faults(x, "1(1(1(1(1(1(2;)))))))", 1, 12);
        faults(x, "1(1(1(1(1(1(2)))))))", 1, 12);
        reads(x, "1(1(1(1(1(1(1;)))))1(1(1(1(1(1;))))))", 2, 1, 2);
        reads(x, "100(500(1;))500(50(1;)50(1;))", 100000, 1, 3);
        faults(x, "100(500(1;))500(50(1;)50(1;))1;", 4, 29);
        faults(x, "100(500(1;))500(50(1;)51(1;))", 4, 28);
        faults(x, "999(999(1;))", 4, 11);
        faults(x, "2(999(100(1;))101(1;))", 4, 20);
        reads(x, "1(999(100(1;))100(1;))", 100000, 1, 2);
        faults(x, "2(999(100(1;))100(1;))", 4, 21);
        faults(x, "1(999(100(1;))101(1;))", 4, 20);
        faults(x, "1(999(100(1;))100(1;)1;)", 4, 21);
        faults(x, "999(100(1;))100(1;)01;", 2, 19);
        faults(x, "999(100(1;))100(1;) 1 ;", 1, 20);
        faults(x, "999(999(999(999(999(1;)))))", 4, 23);
        reads(x, "999(100(1;))100(1;)9( )", 100000, 1, 2);
        reads(x, "999(100(1;))99(1;)1;", 100000, 1, 3);
        reads(x, "1(999(100(1;))99(1;)1;)", 100000, 1, 3);
        faults(x, "999(100(1;))99(1;)1; 1;", 4, 21);
    }

    private static void promise07LoopsOfNothing() {
        TestFloor x = new TestFloor();
        reads(x, "2()", 0, 0, 0);
        reads(x, "2( \n )1;", 1, 1, 1);
        reads(x, "999(999(999(999(999(999())))))", 0, 0, 0);
        reads(x, "1;999(999(999(999(999(999())))))0;", 2, 1, 2);
        check.due("sign(1, 0)", x.sign(1, 0), '0');
        reads(x, "2(3()1;3()0;3(4()))L;", 5, 1, 3);
        String signs = "1010L";
        for (int cycle = 0; cycle < 5; cycle++) {
            check.due("sign(" + cycle + ", 0)", x.sign(cycle, 0), signs.charAt(cycle));
        }
        Check.sheetOf(x, 0, 0);
        compares(x, 0, NONE, NONE, 0);
        Check.sheetOf(x, 0, 1);
        compares(x, 0, 4, 0, 1);
        reads(x, "999(100(L;" + "1()".repeat(126) + "))", 99900, 1, 1);
        compares(x, 0, 0, 0, 99900);
        reads(x, "1()".repeat(60) + "H;" + "9(1()1())".repeat(20), 1, 1, 1);
        Check.sheetOf(x, 0, 0);
        compares(x, 0, 0, 0, 1);
    }

    private static boolean isBlank(char c) {
        return c == 32 || c == 10;
    }

    /** Each byte there is: alone, as a SIGN, as a figure, between TOKENS. */
    private static void promise07AllBytes() {
        for (char c = 0; c < 256; c++) {
            TestFloor x = new TestFloor();
            boolean isSign = "01LHX".indexOf(c) >= 0;
            boolean isFigure = c >= '0' && c <= '9';
            if (isBlank(c)) {
                reads(x, "" + c, 0, 0, 0);
                reads(x, "1;" + c + "0;", 2, 1, 2);
                reads(x, "2" + c + "(" + c + "1;" + c + ")", 2, 1, 1);
                faults(x, c + ";", 1, 1);
                faults(x, c + "(1;)", 1, 1);
                continue;
            }
            faults(x, "" + c, 1, 0);
            faults(x, "1;" + c, 1, 2);
            faults(x, "2(1;)" + c + " 1;", 1, 5);
            if (isSign) {
                reads(x, c + ";", 1, 1, 1);
                check.due("sign(0, 0)", x.sign(0, 0), c);
                reads(x, "0" + c + "1;", 1, 3, 1);
            } else {
                faults(x, c + ";", 1, 0);
                if (c != ';' && c != '(') {
                    faults(x, "1;0" + c + "1;", 1, 2);
                }
            }
            if (c == '0') {
                faults(x, c + "(1;)", 3, 0);
            } else if (isFigure) {
                reads(x, c + "(1;)", c - '0', 1, 1);
            } else {
                faults(x, c + "(1;)", 1, 0);
            }
        }
    }

    /** "A NUMBER: 1 to 3 figures, above 0": 1 to 999, with figures of 0 ahead; four are too many. */
    private static void promise07AllNumbers() {
        for (int number = 1; number <= 999; number++) {
            TestFloor x = new TestFloor();
            reads(x, number + "(1;)", number, 1, 1);
            for (int figures = 2; figures <= 3; figures++) {
                reads(x, String.format("%0" + figures + "d", number) + "(1;)", number, 1, 1);
            }
            faults(x, String.format("%04d", number) + "(1;)", 1, 0);
            faults(x, "1;" + number + "0000(1;)", 1, 2);
        }
        TestFloor x = new TestFloor();
        faults(x, "(1;)", 1, 0);
        faults(x, "0(1;)", 3, 0);
        faults(x, "00(1;)", 3, 0);
        faults(x, "000(1;)", 3, 0);
        faults(x, "0000(1;)", 1, 0);
        faults(x, "1000(1;)", 1, 0);
        faults(x, "4294967297(1;)", 1, 0);
        faults(x, "18446744073709551617(1;)", 1, 0);
        faults(x, "0;0(1;)", 3, 2);
        faults(x, "2(000\n(1;))", 3, 2);
    }

    /** "A LINE: 1 to 8 SIGNS". */
    private static void promise07SignsOfALine() {
        TestFloor x = new TestFloor();
        for (int signs = 1; signs <= 8; signs++) {
            reads(x, "01LHX01L".substring(0, signs) + ";", 1, signs, 1);
            reads(x, "2(" + "H".repeat(signs) + ";)", 2, signs, 1);
        }
        for (int signs = 9; signs <= 20; signs++) {
            faults(x, "X".repeat(signs) + ";", 1, 0);
            faults(x, "XX; " + "X".repeat(signs) + ";", 1, 4);
        }
        faults(x, ";", 1, 0);
        faults(x, "X;;", 1, 2);
        faults(x, "X".repeat(399) + ";", 1, 0);
    }

    /** "All LINES have as many SIGNS as the first one": one less, one more, and all the others. */
    private static void promise07OtherPins() {
        for (int first = 1; first <= 8; first++) {
            TestFloor x = new TestFloor();
            for (int next = 1; next <= 8; next++) {
                String text = "L".repeat(first) + ";2(" + "H".repeat(next) + ";)";
                if (next == first) {
                    reads(x, text, 3, first, 2);
                } else {
                    faults(x, text, 2, first + 3);
                    faults(x, "3(" + "L".repeat(first) + ";)" + "H".repeat(next) + ";", 2, first + 4);
                }
            }
            // The PINS of a PATTERN that stood ahead are nothing to the next one.
            reads(x, "L".repeat(9 - first) + ";", 1, 9 - first, 1);
        }
    }

    /** "bytes 32 and 10 are passed over between TOKENS", not within one; "at once behind it ;". */
    private static void promise07BlanksBetweenTokens() {
        TestFloor x = new TestFloor();
        reads(x, " \n 01; \n\n 12 \n ( \n 01; \n ) \n ", 13, 2, 2);
        for (String blank : new String[] {" ", "\n", " \n", "\n "}) {
            faults(x, "01" + blank + ";", 1, 0);
            faults(x, "0" + blank + "1;", 1, 0);
            faults(x, "1;1" + blank + "2(1;)", 1, 2);
            reads(x, "12" + blank + "(1;)", 12, 1, 1);
        }
        faults(x, "X" + " ".repeat(398) + ";", 1, 0);
        reads(x, "7" + "\n".repeat(397) + "()", 0, 0, 0);
    }

    /** "1 it cannot stand there (the end: how many bytes there are; ..)". */
    private static void promise07TheEnd() {
        TestFloor x = new TestFloor();
        faults(x, "1(", 1, 2);
        faults(x, "1( ", 1, 3);
        faults(x, "1(1;", 1, 4);
        faults(x, "1(1(1;)", 1, 7);
        faults(x, "1(1(1(1(1(1(", 1, 12);
        faults(x, "1(" + " ".repeat(397), 1, 399);
        faults(x, "1(" + " ".repeat(398), 1, 400);
        faults(x, "1(" + "1;".repeat(199), 1, 400);
        reads(x, "1(" + "1;".repeat(198) + ") ", 198, 1, 198);
        // A row of figures and SIGNS at the end is neither LINE nor NUMBER: its first byte is the place.
        faults(x, "1;999", 1, 2);
        faults(x, " ".repeat(399) + "1", 1, 399);
        faults(x, "1;" + "1".repeat(398), 1, 2);
        faults(x, "1".repeat(400), 1, 0);
    }

    /** "THE TAPE has at most 400 bytes": all of them are read. */
    private static void promise07AllOfTheTape() {
        TestFloor x = new TestFloor();
        reads(x, " ".repeat(398) + "X;", 1, 1, 1);
        reads(x, "X;" + "\n".repeat(398), 1, 1, 1);
        reads(x, "01LHX01L;".repeat(44) + "    ", 44, 8, 44);
        reads(x, "9()".repeat(133) + " ", 0, 0, 0);
        x = new TestFloor();
        faults(x, " ".repeat(399) + ")", 1, 399);
        faults(x, " ".repeat(398) + ";)", 1, 398);
        faults(x, "1;".repeat(199) + "01", 1, 398);
        faults(x, "1;" + " ".repeat(395) + "01;", 2, 397);
        faults(x, " ".repeat(398) + "0(", 3, 398);
        faults(x, "1(1(1(1(1(1(" + " ".repeat(386) + "1(", 4, 398);
        faults(x, "999(999(1;)" + " ".repeat(388) + ")", 4, 399);
    }

    /** "6 within one another at most"; "4 too deep (its NUMBER)". */
    private static void promise07SixWithinOneAnother() {
        TestFloor x = new TestFloor();
        for (int depth = 0; depth <= 6; depth++) {
            reads(x, "1(".repeat(depth) + "1;" + ")".repeat(depth), 1, 1, 1);
            reads(x, "1(".repeat(depth) + ")".repeat(depth), 0, 0, 0);
        }
        for (int depth = 7; depth <= 9; depth++) {
            faults(x, "1(".repeat(depth) + "1;" + ")".repeat(depth), 4, 12);
            faults(x, "1(".repeat(depth) + ")".repeat(depth), 4, 12);
        }
        faults(x, "1(1(1(1(1(1(1;123 (1;)))))))", 4, 14);
        reads(x, "1(1(1(1(1(1(1;)))))) 1(1(1(1(1(1(1;))))))", 2, 1, 2);
        reads(x, "1(1(1(1(1(1(1;)1(1;)1(1;))))))", 3, 1, 3);
        faults(x, "1(1(1(1(1(1(1;)1(1(1;)))))))", 4, 17);
        faults(x, "1(1(1(1(1(1()))))))", 1, 18);
    }

    /** "CYCLES: .. 100000 at most": "more than 100000 CYCLES .. at .. the LINE". */
    private static void promise07MostCyclesByLines() {
        TestFloor x = new TestFloor();
        reads(x, "999(100(1;))99(1;)1;", 100000, 1, 3);
        faults(x, "999(100(1;))99(1;)1;1;", 4, 20);
        faults(x, "999(100(1;))99(1;)1;\n 1;0;", 4, 22);
        reads(x, "1(999(100(1;))99(1;)1;)", 100000, 1, 3);
        faults(x, "1(999(100(1;))99(1;)1;1;)", 4, 22);
        reads(x, "1(1(1(1(999(100(1;))99(1;)1;))))", 100000, 1, 3);
        faults(x, "1(1(1(1(999(100(1;))99(1;)1;1;))))", 4, 28);
        // Within the second ( ) there are none too many; outside of all there are when it is closed.
        faults(x, "999(100(1;))100(1;)1(1;)", 4, 23);
        faults(x, "1(999(100(1;))100(1;))1;", 4, 22);
    }

    /** "more than 100000 CYCLES within one ( ) ..: at the ) with which there are more". */
    private static void promise07MostCyclesByLoops() {
        TestFloor x = new TestFloor();
        reads(x, "100(100(10(1;)))", 100000, 1, 1);
        reads(x, "10(10(10(10(10(1;)))))", 100000, 1, 1);
        reads(x, "1(10(10(10(10(10(1;))))))", 100000, 1, 1);
        faults(x, "2(10(10(10(10(10(1;))))))", 4, 24);
        faults(x, "10(10(10(10(10(1;1;)))))", 4, 23);
        faults(x, "10(10(10(10(10(1;))1;)))", 4, 23);
        faults(x, "10(10(10(10(11(1;)))))", 4, 21);
        faults(x, "101(990(1;))11(1;)", 4, 17);
        reads(x, "101(990(1;))10(1;)", 100000, 1, 2);
        faults(x, "999(101(1;))", 4, 11);
        faults(x, "2(999(101(1;)))", 4, 13);
        faults(x, "999(999(999(999(999(999(1;))))))", 4, 27);
        faults(x, "1(50(1000(1;)))", 1, 5);
        faults(x, "999(100(1;))2(50(1;)1;)", 4, 22);
    }

    /** "or outside of all (each ( ) counted there when it is closed, so often)". */
    private static void promise07MostCyclesOutsideOfAll() {
        TestFloor x = new TestFloor();
        reads(x, "500(100(1;))500(100(1;))", 100000, 1, 2);
        faults(x, "500(100(1;))500(100(1;))1(1;)", 4, 28);
        faults(x, "500(100(1;))500(100(1;))1;", 4, 24);
        reads(x, "500(100(1;))500(100(1;))999()999(999(999()))", 100000, 1, 2);
        faults(x, "500(100(1;))501(100(1;))", 4, 23);
        // Within the ( ) that is open there are 50000 only; when it is closed, there are more outside.
        faults(x, "500(100(1;))1(500(100(1;))1;)", 4, 28);
        reads(x, "500(100(1;))1(500(100(1;)))", 100000, 1, 2);
        // A PATTERN ahead counts for nothing.
        reads(x, "1;", 1, 1, 1);
        reads(x, "500(100(1;))500(100(1;))", 100000, 1, 2);
    }

    /** "FAULTS, at the first place where there is one". */
    private static void promise07FirstFaultOfSeveral() {
        TestFloor x = new TestFloor();
        faults(x, "1;a 01; 0(", 1, 2);
        faults(x, "1;01; a 0(", 2, 2);
        faults(x, "1;0(01; a", 3, 2);
        faults(x, "1(1(1(1(1(1(1(0(a", 4, 12);
        faults(x, "1;1(01;0(a", 2, 4);
        faults(x, "2(1;01;", 2, 4);
        faults(x, "2(1;))01;", 1, 5);
        faults(x, "999(999(1;))01;", 4, 11);
        faults(x, "999(999(1;01;", 2, 10);
        faults(x, "0(0(0(0(0(0(0(", 3, 0);
    }

    /** "THE PATTERN stays", whatever the FAULT is, and the tape is empty then. */
    private static void promise07EachFaultLeavesThePattern() {
        String[] texts = {"XXX;)", "XXX;2(", "XXX;XX;", "XXX;0(", "XXX;1(1(1(1(1(1(1(", "XXX;999(999(XXX;))"};
        int[] numbers = {1, 1, 2, 3, 4, 4};
        int[] places = {4, 6, 4, 4, 16, 17};
        for (int k = 0; k < texts.length; k++) {
            TestFloor x = new TestFloor();
            reads(x, "2(01;3(LH;))", 8, 2, 2);
            for (int again = 0; again < 2; again++) {
                faults(x, texts[k], numbers[k], places[k]);
                check.due("count(5)", x.count(5), 2);
                check.due("count(6)", x.count(6), 2);
                String signs = "01LHLHLH01LHLHLH";
                for (int i = 0; i < signs.length(); i++) {
                    check.due("sign(" + i / 2 + ", " + i % 2 + ")", x.sign(i / 2, i % 2), signs.charAt(i));
                }
                check.due("sign(8, 0)", x.sign(8, 0), NONE);
                check.due("sign(0, 2)", x.sign(0, 2), NONE);
            }
            Check.sheetOf(x, 0, 0);
            compares(x, 0, 1, 1, 6);
            reads(x, "", 0, 0, 0);
            check.due("compare(0, 0)", x.compare(0, 0), STATE);
        }
    }

    /** "THE PATTERN stays": where there was none, there is none, however much of the tape was right. */
    private static void promise07FaultsLeaveNoPattern() {
        for (String end : new String[] {")", "2(", "11;", "0(", "1(1(1(1(1(1(1(", "999(999(1;))"}) {
            TestFloor x = new TestFloor();
            x.sheet(0, 0, 1);
            Check.tape(x, "H;2(H;)" + end);
            check.due("pattern() is a FAULT", x.pattern() <= -1000100 ? 1 : 0, 1);
            check.due("compare(0, 0)", x.compare(0, 0), STATE);
            check.due("sign(0, 0)", x.sign(0, 0), NONE);
            check.due("count(5)", x.count(5), 0);
            check.due("count(6)", x.count(6), 0);
            check.due("count(7)", x.count(7), 0);
        }
    }

    private static void promise08Fault() {
        TestFloor x = new TestFloor();
        check.due("fault()", x.fault(), 0);
        reads(x, "1;", 1, 1, 1);
        check.due("fault() after a PATTERN", x.fault(), 0);
        faults(x, "01;1;", 2, 3);
        reads(x, "1;", 1, 1, 1);
        check.due("fault(): the latest one stays", x.fault(), 2);
        faults(x, "0(1;)", 3, 0);
        faults(x, "1", 1, 0);
        faults(x, "999(999(1;))", 4, 11);
        x.feed(0, 9);
        check.due("fault() after a refusal", x.fault(), 4);
    }

    /** "The number of the latest FAULT": each of the four, and it stays behind what has none. */
    private static void promise08LatestFault() {
        TestFloor x = new TestFloor();
        String[] texts = {"a", "1;11;", "0(", "999(999(1;))", "1("};
        int[] numbers = {1, 2, 3, 4, 1};
        int[] places = {0, 2, 0, 11, 2};
        for (int k = 0; k < texts.length; k++) {
            faults(x, texts[k], numbers[k], places[k]);
            reads(x, "1;", 1, 1, 1);
            check.due("fault() behind a PATTERN", x.fault(), numbers[k]);
            reads(x, "", 0, 0, 0);
            check.due("fault() behind an empty tape", x.fault(), numbers[k]);
            x.feed(0, 0);
            x.set(0, 0, 0);
            check.due("fault() behind refusals", x.fault(), numbers[k]);
        }
    }

    private static void promise09Sign() {
        TestFloor x = new TestFloor();
        reads(x, "01LHX01L; LLLLLLLH;", 2, 8, 2);
        String[] lines = {"01LHX01L", "LLLLLLLH"};
        for (int cycle = 0; cycle < 2; cycle++) {
            for (int pin = 0; pin < 8; pin++) {
                check.due("sign(" + cycle + ", " + pin + ")", x.sign(cycle, pin), lines[cycle].charAt(pin));
            }
        }
        int[][] none = {{2, 0}, {0, 8}, {-1, 0}, {0, -1}, {Integer.MAX_VALUE, 0}, {0, Integer.MIN_VALUE},
            {Integer.MIN_VALUE, 0}, {0, Integer.MAX_VALUE}};
        for (int[] n : none) {
            check.due("sign(" + n[0] + ", " + n[1] + ")", x.sign(n[0], n[1]), NONE);
        }
    }

    private static void promise09SignsOfLoops() {
        TestFloor x = new TestFloor();
        reads(x, "1;2(0;3(L;H;)2(X;))2(2(1;)L;)0;", 26, 1, 8);
        StringBuilder signs = new StringBuilder("1");
        signs.append("0LHLHLHXX".repeat(2)).append("11L".repeat(2)).append("0");
        for (int cycle = 0; cycle < signs.length(); cycle++) {
            check.due("sign(" + cycle + ", 0)", x.sign(cycle, 0), signs.charAt(cycle));
        }
        check.due("sign(26, 0)", x.sign(26, 0), NONE);
        reads(x, "999(99(L;)H;)100(X;)", 100000, 1, 3);
        check.due("sign(98, 0)", x.sign(98, 0), 'L');
        check.due("sign(99, 0)", x.sign(99, 0), 'H');
        check.due("sign(99899, 0)", x.sign(99899, 0), 'H');
        check.due("sign(99900, 0)", x.sign(99900, 0), 'X');
        check.due("sign(99999, 0)", x.sign(99999, 0), 'X');
        check.due("sign(100000, 0)", x.sign(100000, 0), NONE);
    }

    /** "NONE: there are not so many (one below 0, too)": CYCLES 0 to 99999, PINS 0 to 7. */
    private static void promise09FirstAndLastSigns() {
        TestFloor x = new TestFloor();
        reads(x, "L0000000;999(100(XXXXXXXX;))98(XXXXXXXX;)1111111H;", 99999 + 1, 8, 4);
        check.due("sign(0, 0)", x.sign(0, 0), 'L');
        check.due("sign(0, 7)", x.sign(0, 7), '0');
        check.due("sign(99999, 0)", x.sign(99999, 0), '1');
        check.due("sign(99999, 7)", x.sign(99999, 7), 'H');
        for (int far : new int[] {MIN, MIN + 1, -1, 100000, 100001, MAX}) {
            for (int pin : new int[] {MIN, -1, 0, 7, 8, MAX}) {
                check.due("sign(" + far + ", " + pin + ")", x.sign(far, pin), NONE);
            }
        }
        for (int far : new int[] {MIN, MIN + 1, -1, 8, 9, 31, 32, MAX}) {
            for (int cycle : new int[] {0, 50000, 99999}) {
                check.due("sign(" + cycle + ", " + far + ")", x.sign(cycle, far), NONE);
            }
        }
        reads(x, "L;", 1, 1, 1);
        check.due("sign(0, 0)", x.sign(0, 0), 'L');
        check.due("sign(0, 1)", x.sign(0, 1), NONE);
        check.due("sign(1, 0)", x.sign(1, 0), NONE);
    }

    private static void promise09NoneOfNoCycles() {
        TestFloor x = new TestFloor();
        check.due("sign(0, 0) of no PATTERN", x.sign(0, 0), NONE);
        reads(x, "9(9())", 0, 0, 0);
        check.due("sign(0, 0) of no CYCLES", x.sign(0, 0), NONE);
        check.due("sign(-1, -1) of no CYCLES", x.sign(-1, -1), NONE);
        reads(x, "11;", 1, 2, 1);
        check.due("sign(0, 1)", x.sign(0, 1), '1');
        reads(x, "", 0, 0, 0);
        check.due("sign(0, 1) of no CYCLES", x.sign(0, 1), NONE);
    }

    private static void compares(TestFloor x, int sheet, int cycle, int pin, int all) {
        check.due("compare(" + sheet + ", 0)", x.compare(sheet, 0), cycle);
        check.due("compare(" + sheet + ", 1)", x.compare(sheet, 1), pin);
        check.due("compare(" + sheet + ", 2)", x.compare(sheet, 2), all);
    }

    private static void promise10Compare() {
        TestFloor x = new TestFloor();
        reads(x, "01X;LLL;HHH;LHX;", 4, 3, 4);
        Check.sheetOf(x, 0, 7, 0, 7, 2);
        compares(x, 0, NONE, NONE, 0);
        Check.sheetOf(x, 0, 0, 0, -1, -2);
        compares(x, 0, NONE, NONE, 0);
        Check.sheetOf(x, 0, 0, 4, 1, 1);
        compares(x, 0, 1, 2, 5);
        Check.sheetOf(x, 0, 0, 6, 7, 2);
        compares(x, 0, 1, 1, 2);
        Check.sheetOf(x, 0, 0, 0, 3, 2);
        compares(x, 0, 2, 2, 1);
        Check.sheetOf(x, 0, 7, 0);
        // ITEMS 7 0 7 0, for CYCLES 0 to 3
        compares(x, 0, 3, 1, 1);
        Check.sheetOf(x, 0, 2, 0, 7, 1, 0, 0, 0);
        compares(x, 0, 3, 0, 2);
        reads(x, "HHHHHHHH;LLLLLLLL;", 2, 8, 2);
        x.sheet(1, 0, 2);
        x.set(1, 0, 127);
        x.set(1, 1, -128);
        compares(x, 1, 0, 7, 2);
        x.set(1, 0, 255);
        compares(x, 1, 1, 7, 1);
    }

    private static void promise10CompareRefusals() {
        TestFloor x = new TestFloor();
        x.sheet(0, 0, 0);
        check.due("compare(0, 0) without a PATTERN", x.compare(0, 0), STATE);
        check.due("compare(5, 0): STATE is ahead of NULL", x.compare(5, 0), STATE);
        check.due("compare(-1, 0)", x.compare(-1, 0), BAD);
        check.due("compare(8, 0)", x.compare(8, 0), BAD);
        check.due("compare(0, -1)", x.compare(0, -1), BAD);
        check.due("compare(0, 3)", x.compare(0, 3), BAD);
        reads(x, "3()", 0, 0, 0);
        check.due("compare(0, 0) without CYCLES", x.compare(0, 0), STATE);
        reads(x, "X;", 1, 1, 1);
        check.due("compare(5, 0)", x.compare(5, 0), NULL);
        check.due("compare(0, 2)", x.compare(0, 2), PLACE);
        x.sheet(0, 0, 1);
        compares(x, 0, NONE, NONE, 0);
        reads(x, "", 0, 0, 0);
        check.due("compare(0, 0) without CYCLES again", x.compare(0, 0), STATE);
    }

    private static void promise10CompareOfLoops() {
        TestFloor x = new TestFloor();
        reads(x, "999(99(L;)H;)100(L;)", 100000, 1, 3);
        Check.sheetOf(x, 0, 0);
        compares(x, 0, 99, 0, 999);
        Check.sheetOf(x, 0, 1);
        compares(x, 0, 0, 0, 999 * 99 + 100);
        int[] hundred = new int[100];
        hundred[99] = 1;
        Check.sheetOf(x, 0, hundred);
        compares(x, 0, 99999, 0, 1);
        hundred[98] = 1;
        Check.sheetOf(x, 0, hundred);
        compares(x, 0, 98, 0, 1001);
        reads(x, "100(2(LLLLLLLL;499(HHHHHHHH;)))", 100000, 8, 2);
        Check.sheetOf(x, 0, 0);
        compares(x, 0, 1, 0, 8 * 99800);
        reads(x, "1(2(1(2(1(2(L;X;))H;)))L;)", 21, 1, 4);
        // by turns LXLX H LXLX H LXLX H LXLX H and L
        Check.sheetOf(x, 0, 0);
        compares(x, 0, 4, 0, 4);
        Check.sheetOf(x, 0, 1);
        compares(x, 0, 0, 0, 9);
        // out of six loops, and into six
        reads(x, "1(1(1(1(1(1(L;))))))2(1(1(1(1(2(L;))))))", 5, 1, 2);
        compares(x, 0, 0, 0, 5);
        Check.sheetOf(x, 0, 0, 0, 0, 0, 1);
        compares(x, 0, 4, 0, 1);
    }

    /** "an L at a 1, an H at a 0": none of the other SIGNS, none of the other bits. */
    private static void promise10EachSignAtEachBit() {
        TestFloor x = new TestFloor();
        for (char sign : "01LHX".toCharArray()) {
            reads(x, sign + ";", 1, 1, 1);
            Check.sheetOf(x, 0, 0);
            compares(x, 0, sign == 'H' ? 0 : NONE, sign == 'H' ? 0 : NONE, sign == 'H' ? 1 : 0);
            Check.sheetOf(x, 0, -2);
            compares(x, 0, sign == 'H' ? 0 : NONE, sign == 'H' ? 0 : NONE, sign == 'H' ? 1 : 0);
            Check.sheetOf(x, 0, 1);
            compares(x, 0, sign == 'L' ? 0 : NONE, sign == 'L' ? 0 : NONE, sign == 'L' ? 1 : 0);
            Check.sheetOf(x, 0, -1);
            compares(x, 0, sign == 'L' ? 0 : NONE, sign == 'L' ? 0 : NONE, sign == 'L' ? 1 : 0);
        }
    }

    /** "at PIN p bit p": each of eight, in each LANE, and "the least such PIN". */
    private static void promise10EachPin() {
        for (int lane = 0; lane < 3; lane++) {
            TestFloor x = new TestFloor();
            x.sheet(0, lane, 1);
            for (int pin = 0; pin < 8; pin++) {
                reads(x, "X".repeat(pin) + "L" + "X".repeat(7 - pin) + ";", 1, 8, 1);
                x.set(0, 0, 1 << pin);
                compares(x, 0, 0, pin, 1);
                x.set(0, 0, ~(1 << pin));
                compares(x, 0, NONE, NONE, 0);
                reads(x, "LLLLLLLL;", 1, 8, 1);
                x.set(0, 0, -1 << pin);
                compares(x, 0, 0, pin, 8 - pin);
                reads(x, "H".repeat(pin + 1) + ";", 1, pin + 1, 1);
                compares(x, 0, pin == 0 ? NONE : 0, pin == 0 ? NONE : 0, pin);
            }
            x.set(0, 0, 256);
            reads(x, "LLLLLLLL;", 1, 8, 1);
            compares(x, 0, NONE, NONE, 0);
        }
    }

    /** "The first CYCLE ..: how many CYCLES are ahead of it": none, and 99999. */
    private static void promise10FirstAndLastCycle() {
        TestFloor x = new TestFloor();
        Check.sheetOf(x, 0, 0);
        reads(x, "1H;999(100(LX;))98(LX;)LX;", 100000, 2, 4);
        compares(x, 0, 0, 1, 1);
        reads(x, "10;999(100(LX;))98(LX;)LH;", 100000, 2, 4);
        compares(x, 0, 99999, 1, 1);
        reads(x, "10;999(100(LX;))98(LX;)LX;", 100000, 2, 4);
        compares(x, 0, NONE, NONE, 0);
    }

    /** "ITEM c modulo their number": as many as CYCLES, one more, one fewer, one. */
    private static void promise10ItemsByTurns() {
        TestFloor x = new TestFloor();
        reads(x, "0;0;0;L;", 4, 1, 4);
        Check.sheetOf(x, 0, 0, 0, 0, 1);
        compares(x, 0, 3, 0, 1);
        Check.sheetOf(x, 0, 1, 1, 1, 0, 1);
        compares(x, 0, NONE, NONE, 0);
        Check.sheetOf(x, 0, 1, 0, 0);
        compares(x, 0, 3, 0, 1);
        Check.sheetOf(x, 0, 0, 1, 1);
        compares(x, 0, NONE, NONE, 0);
        Check.sheetOf(x, 0, 1);
        compares(x, 0, 3, 0, 1);
        reads(x, "100(0;)L;", 101, 1, 2);
        x.sheet(0, 0, 100);
        x.set(0, 0, 1);
        compares(x, 0, 100, 0, 1);
        x.set(0, 0, 0);
        x.set(0, 1, 1);
        x.set(0, 99, 1);
        compares(x, 0, NONE, NONE, 0);
    }

    /** "how many such there are, of all CYCLES and PINS": 800000, and "0 of 2: there is none". */
    private static void promise10MostOfAll() {
        TestFloor x = new TestFloor();
        reads(x, "100(100(10(HHHHHHHH;)))", 100000, 8, 1);
        Check.sheetOf(x, 0, 0);
        compares(x, 0, 0, 0, 800000);
        Check.sheetOf(x, 0, 255);
        compares(x, 0, NONE, NONE, 0);
        x.sheet(0, 0, 100);
        compares(x, 0, 0, 0, 800000);
        reads(x, "100(100(10(LLLLLLLL;)))", 100000, 8, 1);
        compares(x, 0, NONE, NONE, 0);
        Check.sheetOf(x, 0, -1);
        compares(x, 0, 0, 0, 800000);
    }

    /** "BAD: SHEET, what; STATE ..; NULL; PLACE", the first of these that fits. */
    private static void promise10FarNumbers() {
        TestFloor x = new TestFloor();
        for (int round = 0; round < 2; round++) {
            for (int far : new int[] {MIN, MIN + 1, -1, 8, 9, MAX}) {
                check.due("compare(" + far + ", 0)", x.compare(far, 0), BAD);
            }
            for (int far : new int[] {MIN, MIN + 1, -1, 3, 4, MAX}) {
                check.due("compare(7, " + far + ")", x.compare(7, far), BAD);
            }
            for (int what = 0; what < 3; what++) {
                check.due("compare(7, " + what + ")", x.compare(7, what), round == 0 ? STATE : NULL);
            }
            reads(x, "1;", 1, 1, 1);
        }
        x.sheet(7, 2, 0);
        for (int what = 0; what < 3; what++) {
            check.due("compare(7, " + what + ")", x.compare(7, what), PLACE);
        }
        check.due("count(5): THE PATTERN stays", x.count(5), 1);
        check.due("count(6): THE PATTERN stays", x.count(6), 1);
    }
}
