/** All promises: runs of calls that look thrown, each answer beside that of the model. */
public final class ModelTest {
    private static final int NONE = -1000000;
    private static final int CALLS = 36;
    /** What an object answers behind so many calls is free; one step of a run makes fewer than a hundred. */
    private static final int CALLS_OF_AN_OBJECT = 512, CALLS_OF_A_STEP = 100;
    private static final String[] WORDS = {"1;", "0;", "L;", "H;", "X;", "01;", "LH;", "HX;", "2(", "3(", "11(", "0(",
        "99(", "999(", "4 (", "2\n(", ")", ")", ")", ")", " ", "\n", "01LHX01L;", ";", "(", "12", "1", "a", "2(1;)",
        "3(LH;HL;)", "50(L;)", "()", "100(5(H;))", "300(300(L;)"};

    private final Dice dice;
    private final TestFloor x = new TestFloor();
    private final FloorModel m = new FloorModel();
    private final StringBuilder calls = new StringBuilder();
    private int made = 0;
    private int wrong = 0;
    private int tests = 0;

    private ModelTest(long seed) {
        dice = new Dice(seed);
    }

    public static void main(String[] args) {
        int runs = args.length > 0 ? Integer.parseInt(args[0]) : 1500;
        int wrongRuns = 0;
        for (int seed = 1; seed <= runs; seed++) {
            wrongRuns += new ModelTest(seed).run(seed) ? 0 : 1;
        }
        System.out.println("ModelTest: " + runs + " runs, " + wrongRuns + " with an answer that is not the model's");
        if (wrongRuns != 0) {
            System.exit(1);
        }
    }

    /** A run leans to some of the calls, so that each of them meets many states. */
    private boolean run(int seed) {
        int[] leaning = new int[6];
        for (int k = 0; k < leaning.length; k++) {
            leaning[k] = dice.below(CALLS);
        }
        prepare(seed);
        while (made < CALLS_OF_AN_OBJECT - CALLS_OF_A_STEP && wrong == 0) {
            call(dice.below(3) == 0 ? leaning[dice.below(leaning.length)] : dice.below(CALLS));
        }
        if (wrong != 0) {
            System.out.println("run " + seed + ":\n" + calls);
        }
        return wrong == 0;
    }

    private void due(String call, long got, long want) {
        made++;
        calls.append(call).append(" -> ").append(got);
        if (got != want) {
            wrong++;
            calls.append(", the model: ").append(want);
        }
        calls.append('\n');
    }

    private void prepare(int seed) {
        for (int k = 0; k < 4; k++) {
            sheet();
        }
        int tests = dice.below(5);
        for (int k = 0; k < tests; k++) {
            test();
        }
        if (seed % 2 == 0) {
            feedText();
            due("pattern()", x.pattern(), m.pattern());
        }
    }

    /** Mostly from least to most, at times one beyond, or far away. */
    private int number(int least, int most) {
        int luck = dice.below(60);
        if (luck == 0) {
            return least - 1;
        }
        if (luck == 1) {
            return most + 1;
        }
        if (luck == 2) {
            return dice.below(2) == 0 ? Integer.MAX_VALUE - dice.below(3) : Integer.MIN_VALUE + dice.below(3);
        }
        return dice.between(least, most);
    }

    private int small() {
        int luck = dice.below(12);
        if (luck == 0) {
            return dice.next();
        }
        return luck == 1 ? dice.between(-1200, 1200) : dice.between(-3, 4);
    }

    private void sheet() {
        int a = number(0, dice.below(3) == 0 ? 7 : 2);
        int b = number(0, 2);
        int c = dice.below(4) == 0 ? number(0, 100) : number(0, 12);
        due("sheet(" + a + ", " + b + ", " + c + ")", x.sheet(a, b, c), m.sheet(a, b, c));
    }

    private void test() {
        // So that the model can try all orders
        if (tests == 7 && dice.below(20) != 0) {
            return;
        }
        int a = small();
        int b = dice.below(3) == 0 ? a : a + number(-1, 5);
        int c = dice.below(2) == 0 ? number(1, 10) : number(1, 999);
        int d = number(1, 15);
        int got = x.test(a, b, c, d);
        due("test(" + a + ", " + b + ", " + c + ", " + d + ")", got, m.test(a, b, c, d));
        tests = got >= 0 ? got + 1 : tests;
    }

    private void feedText() {
        int words = dice.below(8);
        for (int k = 0; k < words; k++) {
            String word = WORDS[dice.below(WORDS.length)];
            for (int i = 0; i < word.length(); i++) {
                due("feed('" + word.charAt(i) + "')", x.feed(word.charAt(i), 1), m.feed(word.charAt(i), 1));
            }
        }
    }

    private void call(int which) {
        switch (which) {
            case 0, 1 -> sheet();
            case 2, 3 -> {
                int a = number(0, 2), b = number(0, 8), c = dice.below(3) == 0 ? dice.next() : dice.below(4) - 1;
                due("set(" + a + ", " + b + ", " + c + ")", x.set(a, b, c), m.set(a, b, c));
            }
            case 4 -> {
                int a = number(0, 3), b = number(0, 5), c = number(0, 3), d = number(0, 5), e = number(0, 6);
                due("copy(" + a + ", " + b + ", " + c + ", " + d + ", " + e + ")", x.copy(a, b, c, d, e),
                    m.copy(a, b, c, d, e));
            }
            case 5 -> {
                int a = number(0, 7);
                due("drop(" + a + ")", x.drop(a), m.drop(a));
            }
            case 6 -> feedText();
            case 7 -> {
                long w = (long) dice.next() << 32 | dice.next() & 0xffffffffL;
                int n = number(1, 8);
                due("feed(" + w + ", " + n + ")", x.feed(w, n), m.feed(w, n));
            }
            case 8 -> due("pattern()", x.pattern(), m.pattern());
            case 9 -> due("fault()", x.fault(), m.fault());
            case 10 -> {
                int a = dice.below(4) == 0 ? dice.below(100001) : number(0, 30), b = number(0, 7);
                due("sign(" + a + ", " + b + ")", x.sign(a, b), m.sign(a, b));
            }
            case 11 -> {
                int a = number(0, 3), b = number(0, 2);
                due("compare(" + a + ", " + b + ")", x.compare(a, b), m.compare(a, b));
            }
            case 12 -> test();
            case 13 -> {
                int a = number(0, 5), b = number(0, 5);
                due("move(" + a + ", " + b + ")", x.move(a, b), m.move(a, b));
            }
            case 14 -> {
                int a = number(0, 9);
                due("flow(" + a + ")", x.flow(a), m.flow(a));
            }
            case 15 -> {
                int a = number(0, 6);
                due("kind(" + a + ")", x.kind(a), m.kind(a));
            }
            case 16 -> {
                int a = number(0, 6), b = number(0, 3);
                due("as(" + a + ", " + b + ")", x.as(a, b), m.as(a, b));
            }
            case 17 -> {
                int a = number(0, 6), b = number(0, 1);
                due("ask(" + a + ", " + b + ")", x.ask(a, b), m.ask(a, b));
            }
            default -> laterCall(which);
        }
    }

    private void laterCall(int which) {
        switch (which) {
            case 18 -> {
                int a = number(0, 5);
                due("trace(" + a + ")", x.trace(a), m.trace(a));
            }
            case 19 -> {
                int a = number(0, 7), b = dice.below(3) == 0 ? number(-1000, 1000) : number(-2, 2);
                due("seat(" + a + ", " + b + ")", x.seat(a, b), m.seat(a, b));
            }
            case 20 -> {
                int a = number(0, 7);
                due("dead(" + a + ")", x.dead(a), m.dead(a));
            }
            case 21 -> {
                int a = dice.below(8) == 0 ? dice.next() : dice.next() & 0xfffe, b = number(1, 4);
                due("law(" + a + ", " + b + ")", x.law(a, b), m.law(a, b));
            }
            case 22, 23, 24 -> {
                int a = number(0, 2), b = number(0, dice.below(2) == 0 ? 7 : 2);
                due("chip(" + a + ", " + b + ")", x.chip(a, b), m.chip(a, b));
            }
            case 25 -> {
                int a = number(0, 60), b = number(0, 5);
                due("told(" + a + ", " + b + ")", x.told(a, b), m.told(a, b));
            }
            case 26 -> {
                int a = number(0, 5), b = number(0, 10);
                due("share(" + a + ", " + b + ")", x.share(a, b), m.share(a, b));
            }
            case 27 -> due("mean()", x.mean(), m.mean());
            case 28 -> {
                if (tests <= 6) {
                    due("order()", x.order(), m.order());
                }
            }
            case 29 -> {
                int a = number(0, 2), b = number(0, 6), c = dice.below(3) == 0 ? number(1, 60) : number(1, 6);
                int d = number(0, 2);
                due("edge(" + a + ", " + b + ", " + c + ", " + d + ")", x.edge(a, b, c, d), m.edge(a, b, c, d));
            }
            case 30 -> dies();
            case 31 -> {
                int a = number(0, 1), b = number(1, 4), c = dice.below(2) == 0 ? NONE : number(0, 9);
                due("odd(" + a + ", " + b + ", " + c + ")", x.odd(a, b, c), m.odd(a, b, c));
            }
            case 32 -> {
                int a = number(-3, 3), b = number(-3, 3), c = number(0, 3);
                due("join(" + a + ", " + b + ", " + c + ")", x.join(a, b, c), m.join(a, b, c));
            }
            case 33 -> {
                int a = number(0, 2);
                due("best(" + a + ")", x.best(a), m.best(a));
            }
            default -> lots();
        }
    }

    private void dies() {
        for (int k = 0; k < 6; k++) {
            int a = number(0, 1), b = number(0, dice.below(3) == 0 ? 11 : 5), c = number(0, 5);
            int d = dice.below(5) == 0 ? NONE : dice.below(2) * number(0, 15);
            due("die(" + a + ", " + b + ", " + c + ", " + d + ")", x.die(a, b, c, d), m.die(a, b, c, d));
        }
    }

    private void lots() {
        switch (dice.below(8)) {
            case 0 -> {
                if (dice.below(3) == 0) {
                    due("lot()", x.lot(), m.lot());
                }
            }
            case 1 -> {
                int a = number(0, 15);
                due("bins(" + a + ")", x.bins(a), m.bins(a));
            }
            case 2, 3 -> {
                int a = number(0, 100), b = number(0, 20);
                due("held(" + a + ", " + b + ")", x.held(a, b), m.held(a, b));
            }
            case 4, 5 -> {
                int a = number(0, 7), b = number(0, 1);
                due("chance(" + a + ", " + b + ")", x.chance(a, b), m.chance(a, b));
            }
            case 6 -> {
                int a = number(0, 7);
                due("count(" + a + ")", x.count(a), m.count(a));
            }
            default -> due("status()", x.status(), m.status());
        }
    }
}
