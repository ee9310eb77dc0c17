import java.util.Arrays;

/**
 * A floor where chips are tried. Words in capitals in the comments are those of the document's
 * section 'Terms'.
 */
public final class TestFloor {
    public static final int NONE = -1000000, BAD = -1000001, STATE = -1000002, FULL = -1000003;

    private static final int FINDINGS = -1000010;
    private static final int NULL = 1, PLACE = 2, KIND = 3, SIZE = 4, STORE = 5;

    private static final int SHEETS = 8, SHEET_ITEMS = 100, LANES = 3, MISSING = -1;
    private static final int EDGE_ITEMS = 60;

    private static final int TAPE_BYTES = 400, FEED_BYTES = 8;
    private static final int LINE_SIGNS = 8, NUMBER_FIGURES = 3, DEPTH = 6, MOST_CYCLES = 100000;
    private static final int LINE = 0, BEGIN = 1, END = 2;
    private static final int FAULTS = -1000100;
    private static final int MISPLACED = 1, OTHER_PINS = 2, NO_TIMES = 3, TOO_MUCH = 4;

    private static final int TESTS = 10, MOST_TIME = 999, SHORT_TIME = 9, WHOLE_SHARE = 10;
    private static final int PLAIN = 0, SHORT = 1, POINT = 2, OPEN = 3, KINDS = 4;
    private static final int COST = 0, MARK = 1, TRACED = 16;

    private static final int BINS = 16, DEAD_BIN = 15, LAW_BINS = 0xFFFE, MOST_TRIES = 4;
    private static final int SEATS = 8, MOST_ADDED = 1000;
    private static final int LOG_CHIPS = 200, CHANCE_CHIPS = 40;
    private static final int HAS_BIN = 0, HAS_TRIES = 1, HAS_TIME = 2, HAS_SEAT = 3;
    private static final int HAS_FIRST_SEAT = 4, HAS_FIRST_BIN = 5, CHIP_FACTS = 6;

    private static final int SIDE = 12, MOST_NEIGHBOURS = 8, FARTHEST = 3;

    private final Sheets sheets = new Sheets();
    private int latestFinding = 0;
    private final int[] tape = new int[TAPE_BYTES];
    private int tapeLength = 0;
    private final TapeReader reader = new TapeReader();
    private PatternSteps thePattern = new PatternSteps();
    private int latestFault = 0;
    private final Tests tests = new Tests();
    private final Asks asks = new Asks(tests);
    private final int[] seatAdds = new int[SEATS];
    private final boolean[] seatIsDead = new boolean[SEATS];
    private int lawBins = 0;
    private int lawTries = 1;
    private final Log log = new Log();
    private final Wafer firstWafer = new Wafer();
    private final Wafer secondWafer = new Wafer();

    public TestFloor() {
    }

    // ---- sheets

    public int sheet(int sheet, int lane, int n) {
        if (!isWithin(sheet, SHEETS) || !isWithin(lane, LANES) || n > SHEET_ITEMS) {
            return BAD;
        }
        if (n < 0) {
            return found(SIZE);
        }
        sheets.lay(sheet, lane, n);
        return fine(n);
    }

    public int set(int sheet, int i, int v) {
        if (!isWithin(sheet, SHEETS)) {
            return BAD;
        }
        if (sheets.isMissing(sheet)) {
            return found(NULL);
        }
        if (!sheets.hasItems(sheet, i, 1)) {
            return found(PLACE);
        }
        return fine(sheets.put(sheet, i, v));
    }

    public int copy(int a, int i, int b, int j, int n) {
        if (!isWithin(a, SHEETS) || !isWithin(b, SHEETS)) {
            return BAD;
        }
        if (sheets.isMissing(a) || sheets.isMissing(b)) {
            return found(NULL);
        }
        if (sheets.lanes[a] != sheets.lanes[b]) {
            return found(STORE);
        }
        if (!sheets.hasItems(a, i, n) || !sheets.hasItems(b, j, n)) {
            return found(PLACE);
        }
        System.arraycopy(sheets.items, sheets.indexOf(a, i), sheets.items, sheets.indexOf(b, j), n);
        return fine(n);
    }

    public int drop(int sheet) {
        if (!isWithin(sheet, SHEETS)) {
            return BAD;
        }
        if (sheets.isMissing(sheet)) {
            return found(NULL);
        }
        sheets.lanes[sheet] = MISSING;
        return fine(sheets.sizes[sheet]);
    }

    // ---- patterns

    public int feed(long w, int n) {
        if (n < 1 || n > FEED_BYTES) {
            return BAD;
        }
        if (tapeLength + n > TAPE_BYTES) {
            return FULL;
        }
        for (int k = n - 1; k >= 0; k--) {
            tape[tapeLength] = (int) (w >> (8 * k)) & 255;
            tapeLength++;
        }
        return tapeLength;
    }

    public int pattern() {
        int fault = reader.read(tape, tapeLength);
        tapeLength = 0;
        if (fault != 0) {
            latestFault = fault;
            return FAULTS - reader.faultPlace;
        }
        // The one that stood till now is read into next: it stays whole where that finds a FAULT.
        PatternSteps read = reader.into;
        reader.into = thePattern;
        thePattern = read;
        return thePattern.cycles;
    }

    public int fault() {
        return latestFault;
    }

    public int sign(int cycle, int pin) {
        if (!isWithin(cycle, thePattern.cycles) || !isWithin(pin, thePattern.pins)) {
            return NONE;
        }
        return thePattern.signOf(thePattern.lineOf(cycle), pin);
    }

    public int compare(int sheet, int what) {
        if (!isWithin(sheet, SHEETS) || !isWithin(what, 3)) {
            return BAD;
        }
        if (thePattern.cycles == 0) {
            return STATE;
        }
        if (sheets.isMissing(sheet)) {
            return found(NULL);
        }
        if (sheets.sizes[sheet] == 0) {
            return found(PLACE);
        }
        return fine(what == 2 ? wrongSigns(sheet) : firstWrong(sheet, what == 1));
    }

    /** The first CYCLE with a wrong PIN, or that PIN. */
    private int firstWrong(int sheet, boolean askedForPin) {
        thePattern.startWalk();
        for (int cycle = 0; cycle < thePattern.cycles; cycle++) {
            int wrong = wrongPinsNext(sheet, cycle);
            if (wrong != 0) {
                return askedForPin ? lowestBit(wrong) : cycle;
            }
        }
        return NONE;
    }

    private int wrongSigns(int sheet) {
        int count = 0;
        thePattern.startWalk();
        for (int cycle = 0; cycle < thePattern.cycles; cycle++) {
            count += Integer.bitCount(wrongPinsNext(sheet, cycle));
        }
        return count;
    }

    /** The wrong PINS, as bits, of the CYCLE that is next in the walk. */
    private int wrongPinsNext(int sheet, int cycle) {
        int size = sheets.sizes[sheet];
        if (size == 0) {
            return 0;
        }
        return thePattern.wrongPins(thePattern.nextLine(), sheets.itemAt(sheet, cycle % size));
    }

    private static int lowestBit(int bits) {
        for (int i = 0; i < LINE_SIGNS; i++) {
            if ((bits >> i & 1) == 1) {
                return i;
            }
        }
        return NONE;
    }

    // ---- tests

    public int test(int low, int high, int time, int bin) {
        if (time < 1 || time > MOST_TIME || bin < 1 || bin >= BINS) {
            return BAD;
        }
        if (tests.count == TESTS) {
            return FULL;
        }
        return tests.add(low, high, time, bin);
    }

    public int move(int test, int place) {
        if (!isWithin(test, tests.count) || !isWithin(place, tests.count)) {
            return BAD;
        }
        int was = tests.placeOf(test);
        if (was == NONE) {
            return BAD;
        }
        tests.putAt(test, was, place);
        return was;
    }

    public int flow(int place) {
        return isWithin(place, tests.count) ? tests.order[place] : NONE;
    }

    public int kind(int test) {
        return isWithin(test, tests.count) ? tests.kindOf(test) : BAD;
    }

    public int as(int test, int kind) {
        if (!isWithin(test, tests.count) || !isWithin(kind, KINDS)) {
            return BAD;
        }
        return tests.isAlso(test, kind) ? fine(tests.times[test]) : found(KIND);
    }

    public int ask(int test, int what) {
        if (!isWithin(test, tests.count) || what != COST && what != MARK) {
            return BAD;
        }
        asks.traceLength = 0;
        return what == COST ? asks.costOf(test) : asks.markOf(test);
    }

    public int trace(int i) {
        return isWithin(i, asks.traceLength) ? asks.begun[i] : NONE;
    }

    // ---- chips

    public int seat(int seat, int adds) {
        if (!isWithin(seat, SEATS) || adds < -MOST_ADDED || adds > MOST_ADDED) {
            return BAD;
        }
        int was = seatIsDead[seat] ? NONE : seatAdds[seat];
        seatIsDead[seat] = false;
        seatAdds[seat] = adds;
        return was;
    }

    public int dead(int seat) {
        if (!isWithin(seat, SEATS)) {
            return BAD;
        }
        int news = seatIsDead[seat] ? 0 : 1;
        seatIsDead[seat] = true;
        return news;
    }

    public int law(int bins, int tries) {
        if ((bins & ~LAW_BINS) != 0 || tries < 1 || tries > MOST_TRIES) {
            return BAD;
        }
        lawBins = bins;
        lawTries = tries;
        return 1;
    }

    public int chip(int sheet, int seat) {
        if (!isWithin(sheet, SHEETS) || !isWithin(seat, SEATS)) {
            return BAD;
        }
        if (tests.count == 0) {
            return STATE;
        }
        if (log.length == LOG_CHIPS) {
            return FULL;
        }
        if (sheets.isMissing(sheet)) {
            return found(NULL);
        }
        if (!tryByLaw(sheet, seat)) {
            return found(PLACE);
        }
        return fine(log.keep());
    }

    /** Whether all ITEMS that were asked for were there; THE LOG's next CHIP is then as it came out. */
    private boolean tryByLaw(int sheet, int firstSeat) {
        log.begin(firstSeat);
        int seat = firstSeat;
        boolean goesOn = true;
        for (int tries = 0; goesOn && tries < lawTries; tries++) {
            int bin = tryIn(sheet, seat);
            if (bin == NONE) {
                return false;
            }
            goesOn = (lawBins >> bin & 1) == 1;
            seat = (seat + 1) % SEATS;
        }
        return true;
    }

    /** The BIN, as THE LOG's next CHIP has it now; NONE: an ITEM that was asked for is not there. */
    private int tryIn(int sheet, int seat) {
        if (seatIsDead[seat]) {
            log.addTry(seat, DEAD_BIN, 0);
            return DEAD_BIN;
        }
        int end = endOfFlow(sheet, seatAdds[seat]);
        if (end == NONE) {
            return NONE;
        }
        int bin = tests.binAtEnd(end);
        log.addTry(seat, bin, tests.timeToEnd(end));
        return bin;
    }

    /** The place in THE FLOW of the TEST that is not passed, or behind all; NONE: an ITEM asked for is not there. */
    private int endOfFlow(int sheet, int adds) {
        for (int place = 0; place < tests.count; place++) {
            int test = tests.order[place];
            if (!sheets.hasItems(sheet, test, 1)) {
                return NONE;
            }
            // As a long: an ITEM near the end of the ints and what is added are more than an int holds.
            if (!tests.passes(test, (long) sheets.itemAt(sheet, test) + adds)) {
                return place;
            }
        }
        return tests.count;
    }

    public int told(int chip, int what) {
        if (!isWithin(chip, log.length) || !isWithin(what, CHIP_FACTS)) {
            return BAD;
        }
        return log.fact(chip, what);
    }

    // ---- orders

    public int share(int test, int f) {
        if (!isWithin(test, tests.count) || f < 0 || f > WHOLE_SHARE) {
            return BAD;
        }
        int was = tests.shares[test];
        tests.shares[test] = f;
        return was;
    }

    public long mean() {
        return tests.meanTime();
    }

    public long order() {
        tests.takeBestOrder();
        return tests.meanTime();
    }

    public int edge(int sheet, int i, int n, int what) {
        if (!isWithin(sheet, SHEETS) || n < 1 || n > EDGE_ITEMS || !isWithin(what, 3)) {
            return BAD;
        }
        if (sheets.isMissing(sheet)) {
            return found(NULL);
        }
        if (!sheets.hasItems(sheet, i, n)) {
            return found(PLACE);
        }
        int lower = i;
        int upper = i + n;
        int looks = 0;
        while (lower < upper && looks < EDGE_ITEMS) {
            int middle = (lower + upper) / 2;
            looks++;
            if (sheets.itemAt(sheet, middle) != 0) {
                upper = middle;
            } else {
                lower = middle + 1;
            }
        }
        if (what == 2) {
            return fine(isEdge(sheet, i, lower, i + n) ? 1 : 0);
        }
        return fine(what == 1 ? looks : lower - i);
    }

    private boolean isEdge(int sheet, int from, int edge, int to) {
        for (int i = from; i < to; i++) {
            if ((sheets.itemAt(sheet, i) != 0) != (i >= edge)) {
                return false;
            }
        }
        return true;
    }

    // ---- wafers

    public int die(int wafer, int x, int y, int bin) {
        if (!isWithin(wafer, 2) || !Wafer.isPlace(x, y) || !isWithin(bin, BINS) && bin != NONE) {
            return BAD;
        }
        return waferOf(wafer).put(x, y, bin);
    }

    public int odd(int wafer, int number, int i) {
        if (!isWithin(wafer, 2) || number < 1 || number > MOST_NEIGHBOURS) {
            return BAD;
        }
        return i == NONE ? waferOf(wafer).oddCount(number) : waferOf(wafer).oddPlace(number, i);
    }

    public int join(int dx, int dy, int what) {
        if (dx < -FARTHEST || dx > FARTHEST || dy < -FARTHEST || dy > FARTHEST || !isWithin(what, 4)) {
            return BAD;
        }
        if (what == 1) {
            return same(dx, dy);
        }
        int both = twice(dx, dy);
        if (what == 0) {
            return both;
        }
        return (what == 2 ? firstWafer : secondWafer).filled() - both;
    }

    public int best(int what) {
        if (!isWithin(what, 3)) {
            return BAD;
        }
        int bestDx = NONE;
        int bestDy = NONE;
        int mostSame = -1;
        int leastTwice = -1;
        for (int dx = -FARTHEST; dx <= FARTHEST; dx++) {
            for (int dy = -FARTHEST; dy <= FARTHEST; dy++) {
                int sameHere = same(dx, dy);
                int twiceHere = twice(dx, dy);
                if (sameHere > mostSame || sameHere == mostSame && twiceHere < leastTwice) {
                    bestDx = dx;
                    bestDy = dy;
                    mostSame = sameHere;
                    leastTwice = twiceHere;
                }
            }
        }
        if (what == 2) {
            return mostSame;
        }
        return what == 0 ? bestDx : bestDy;
    }

    private int twice(int dx, int dy) {
        int count = 0;
        for (int y = 0; y < SIDE; y++) {
            for (int x = 0; x < SIDE; x++) {
                if (secondWafer.binAt(x, y) != NONE && firstWafer.binAt(x + dx, y + dy) != NONE) {
                    count++;
                }
            }
        }
        return count;
    }

    private int same(int dx, int dy) {
        int count = 0;
        for (int y = 0; y < SIDE; y++) {
            for (int x = 0; x < SIDE; x++) {
                int bin = secondWafer.binAt(x, y);
                if (bin != NONE && firstWafer.binAt(x + dx, y + dy) == bin) {
                    count++;
                }
            }
        }
        return count;
    }

    private Wafer waferOf(int number) {
        return number == 0 ? firstWafer : secondWafer;
    }

    // ---- lots

    public int lot() {
        int had = log.lotSize();
        log.lotStart = log.length;
        return had;
    }

    public int bins(int bin) {
        return isWithin(bin, BINS) ? log.countOfBin(bin) : BAD;
    }

    public int held(int y, int m) {
        if (y < 0 || y > 100 || m < 0) {
            return BAD;
        }
        if (log.lotSize() == 0) {
            return STATE;
        }
        return log.isHeld(y, m) ? 1 : 0;
    }

    public long chance(int seat, int what) {
        if (!isWithin(seat, SEATS) || !isWithin(what, 2)) {
            return BAD;
        }
        if (log.countOfSeat(seat) == 0 || log.lotSize() > CHANCE_CHIPS) {
            return STATE;
        }
        return what == 0 ? log.waysSo(seat) : choose(log.lotSize(), log.countOfSeat(seat));
    }

    public int count(int what) {
        switch (what) {
            case 0:
                return sheets.present();
            case 1:
                return tests.count;
            case 2:
                return log.length;
            case 3:
                return log.lotSize();
            case 4:
                return deadSeats();
            case 5:
                return thePattern.pins;
            case 6:
                return thePattern.lines;
            case 7:
                return tapeLength;
            default:
                return BAD;
        }
    }

    public int status() {
        return latestFinding;
    }

    private int deadSeats() {
        int count = 0;
        for (int seat = 0; seat < SEATS; seat++) {
            if (seatIsDead[seat]) {
                count++;
            }
        }
        return count;
    }

    // ---- for all of them

    private static boolean isWithin(int number, int end) {
        return number >= 0 && number < end;
    }

    private int found(int finding) {
        latestFinding = finding;
        return FINDINGS - finding;
    }

    private int fine(int answer) {
        latestFinding = 0;
        return answer;
    }

    /** In how many ways k are chosen of n; no division leaves a rest, as i + 1 numbers in a row were multiplied. */
    private static long choose(int n, int k) {
        if (k < 0 || k > n) {
            return 0;
        }
        long ways = 1;
        for (int i = 0; i < k; i++) {
            ways = ways * (n - i) / (i + 1);
        }
        return ways;
    }

    /** The SHEETS, each with places of its own in one row, which are used again. */
    private static final class Sheets {
        final int[] lanes = new int[SHEETS];
        final int[] sizes = new int[SHEETS];
        final int[] items = new int[SHEETS * SHEET_ITEMS];

        Sheets() {
            Arrays.fill(lanes, MISSING);
        }

        boolean isMissing(int sheet) {
            return lanes[sheet] == MISSING;
        }

        int present() {
            int count = 0;
            for (int sheet = 0; sheet < SHEETS; sheet++) {
                if (!isMissing(sheet)) {
                    count++;
                }
            }
            return count;
        }

        void lay(int sheet, int lane, int n) {
            lanes[sheet] = lane;
            sizes[sheet] = n;
            for (int i = 0; i < n; i++) {
                items[indexOf(sheet, i)] = 0;
            }
        }

        boolean hasItems(int sheet, int from, int n) {
            return from >= 0 && n >= 0 && (long) from + n <= sizes[sheet];
        }

        int indexOf(int sheet, int i) {
            return sheet * SHEET_ITEMS + i;
        }

        int itemAt(int sheet, int i) {
            return items[indexOf(sheet, i)];
        }

        int put(int sheet, int i, int v) {
            int kept = v;
            if (lanes[sheet] == 0) {
                kept = (byte) v;
            } else if (lanes[sheet] == 1) {
                kept = (short) v;
            }
            items[indexOf(sheet, i)] = kept;
            return kept;
        }
    }

    /**
     * A PATTERN, not spread out: steps, of which each is a LINE, or where a loop begins or ends. Each step comes from
     * a byte of the tape of its own, so there are never more steps than bytes.
     */
    private static final class PatternSteps {
        final int[] text = new int[TAPE_BYTES];
        final int[] roles = new int[TAPE_BYTES];
        /** Of a LINE: the place of its first SIGN; of a loop's first step: its last one, and the other way about. */
        final int[] links = new int[TAPE_BYTES];
        final int[] times = new int[TAPE_BYTES];
        /** How many CYCLES one turn of a loop has. */
        final int[] within = new int[TAPE_BYTES];
        final int[] lowPins = new int[TAPE_BYTES];
        final int[] highPins = new int[TAPE_BYTES];
        final int[] turns = new int[TAPE_BYTES];
        int size = 0;
        int walkStep = 0;
        int pins = 0;
        int lines = 0;
        int cycles = 0;

        void startWith(int[] bytes, int length) {
            System.arraycopy(bytes, 0, text, 0, length);
            size = 0;
            pins = 0;
            lines = 0;
            cycles = 0;
        }

        void addLine(int place, int signs) {
            roles[size] = LINE;
            links[size] = place;
            lowPins[size] = pinsWith('L', place, signs);
            highPins[size] = pinsWith('H', place, signs);
            size++;
            pins = signs;
            lines++;
        }

        private int pinsWith(int sign, int place, int signs) {
            int bits = 0;
            for (int pin = 0; pin < signs; pin++) {
                if (text[place + pin] == sign) {
                    bits |= 1 << pin;
                }
            }
            return bits;
        }

        int beginLoop(int howOften) {
            roles[size] = BEGIN;
            times[size] = howOften;
            size++;
            return size - 1;
        }

        /** A loop of no CYCLES takes no step: walked through, it could cost 999 times 999 times .. steps. */
        void endLoop(int begin, int cyclesWithin) {
            if (cyclesWithin == 0) {
                size = begin;
                return;
            }
            within[begin] = cyclesWithin;
            links[begin] = size;
            roles[size] = END;
            links[size] = begin;
            size++;
        }

        /** The step of the LINE of a CYCLE; NONE: there are not so many. */
        int lineOf(int cycle) {
            int ahead = cycle;
            int step = 0;
            for (int i = 0; i < TAPE_BYTES && step < size; i++) {
                if (roles[step] == LINE) {
                    if (ahead == 0) {
                        return step;
                    }
                    ahead--;
                    step++;
                } else if (roles[step] == BEGIN && within[step] > 0 && ahead < times[step] * within[step]) {
                    ahead = ahead % within[step];
                    step++;
                } else if (roles[step] == BEGIN) {
                    ahead -= times[step] * within[step];
                    step = links[step] + 1;
                } else {
                    step++;
                }
            }
            return NONE;
        }

        int signOf(int line, int pin) {
            return line == NONE ? NONE : text[links[line] + pin];
        }

        void startWalk() {
            walkStep = 0;
        }

        /**
         * The step of the next CYCLE's LINE; NONE behind the last one. Between two LINES there are at most DEPTH steps
         * out of loops and DEPTH steps into loops.
         */
        int nextLine() {
            for (int i = 0; i <= 2 * DEPTH && walkStep < size; i++) {
                int step = walkStep;
                walkStep++;
                if (roles[step] == LINE) {
                    return step;
                }
                if (roles[step] == BEGIN) {
                    turns[step] = 1;
                } else if (turns[links[step]] < times[links[step]]) {
                    turns[links[step]]++;
                    walkStep = links[step] + 1;
                }
            }
            return NONE;
        }

        /** As bits: the PINS with an L at a 1, or an H at a 0. */
        int wrongPins(int line, int item) {
            return line == NONE ? 0 : item & lowPins[line] | ~item & highPins[line];
        }
    }

    /** Reads a tape, TOKEN by TOKEN, up to its end or the first FAULT. */
    private static final class TapeReader {
        PatternSteps into = new PatternSteps();
        int faultPlace = 0;
        private int fault = 0;
        private int length = 0;
        private int depth = 0;
        /** CYCLES so far: outside of all, and within each loop that is open. */
        private final int[] counts = new int[DEPTH + 1];
        private final int[] begins = new int[DEPTH + 1];

        /** The number of the first FAULT; 0: there is none, and the PATTERN is whole. */
        int read(int[] bytes, int howMany) {
            into.startWith(bytes, howMany);
            length = howMany;
            fault = 0;
            depth = 0;
            counts[0] = 0;
            int place = behindBlanks(0);
            for (int tokens = 0; tokens < length && place < length && fault == 0; tokens++) {
                place = behindBlanks(readToken(place));
            }
            if (fault == 0 && depth > 0) {
                stopAt(MISPLACED, length);
            }
            into.cycles = counts[0];
            return fault;
        }

        private int stopAt(int number, int place) {
            fault = number;
            faultPlace = place;
            return length;
        }

        /** Takes the TOKEN at a place: the place behind it. */
        private int readToken(int place) {
            if (into.text[place] == ')') {
                return readEnd(place);
            }
            int end = behindRow(place);
            if (end == place) {
                return stopAt(MISPLACED, place);
            }
            return isAt(end, ';') ? readLine(place, end) : readNumber(place, end);
        }

        private int readEnd(int place) {
            if (depth == 0) {
                return stopAt(MISPLACED, place);
            }
            int begin = begins[depth];
            int within = counts[depth];
            depth--;
            counts[depth] += into.times[begin] * within;
            if (counts[depth] > MOST_CYCLES) {
                return stopAt(TOO_MUCH, place);
            }
            into.endLoop(begin, within);
            return place + 1;
        }

        private int readLine(int place, int end) {
            int signs = end - place;
            if (signs > LINE_SIGNS || !areSigns(place, end)) {
                return stopAt(MISPLACED, place);
            }
            if (into.lines > 0 && signs != into.pins) {
                return stopAt(OTHER_PINS, place);
            }
            counts[depth]++;
            if (counts[depth] > MOST_CYCLES) {
                return stopAt(TOO_MUCH, place);
            }
            into.addLine(place, signs);
            return end + 1;
        }

        private int readNumber(int place, int end) {
            int bracket = behindBlanks(end);
            if (end - place > NUMBER_FIGURES || !areFigures(place, end) || !isAt(bracket, '(')) {
                return stopAt(MISPLACED, place);
            }
            int number = numberAt(place, end);
            if (number == 0) {
                return stopAt(NO_TIMES, place);
            }
            if (depth == DEPTH) {
                return stopAt(TOO_MUCH, place);
            }
            depth++;
            counts[depth] = 0;
            begins[depth] = into.beginLoop(number);
            return bracket + 1;
        }

        private int behindBlanks(int from) {
            int place = from;
            while (place < length && (into.text[place] == 32 || into.text[place] == 10)) {
                place++;
            }
            return place;
        }

        private int behindRow(int from) {
            int place = from;
            while (place < length && (isFigure(into.text[place]) || isSign(into.text[place]))) {
                place++;
            }
            return place;
        }

        private boolean isAt(int place, int c) {
            return place < length && into.text[place] == c;
        }

        private boolean areSigns(int from, int to) {
            for (int place = from; place < to; place++) {
                if (!isSign(into.text[place])) {
                    return false;
                }
            }
            return true;
        }

        private boolean areFigures(int from, int to) {
            for (int place = from; place < to; place++) {
                if (!isFigure(into.text[place])) {
                    return false;
                }
            }
            return true;
        }

        private int numberAt(int from, int to) {
            int number = 0;
            for (int place = from; place < to; place++) {
                number = 10 * number + into.text[place] - '0';
            }
            return number;
        }

        private static boolean isFigure(int c) {
            return c >= '0' && c <= '9';
        }

        private static boolean isSign(int c) {
            return c == '0' || c == '1' || c == 'L' || c == 'H' || c == 'X';
        }
    }

    /** The TESTS and THE FLOW. */
    private static final class Tests {
        int count = 0;
        final int[] lows = new int[TESTS];
        final int[] highs = new int[TESTS];
        final int[] times = new int[TESTS];
        final int[] bins = new int[TESTS];
        final int[] shares = new int[TESTS];
        final int[] order = new int[TESTS];

        int add(int low, int high, int time, int bin) {
            int test = count;
            lows[test] = low;
            highs[test] = high;
            times[test] = time;
            bins[test] = bin;
            order[test] = test;
            count++;
            return test;
        }

        int kindOf(int test) {
            if (lows[test] > highs[test]) {
                return OPEN;
            }
            if (times[test] > SHORT_TIME) {
                return PLAIN;
            }
            return lows[test] == highs[test] ? POINT : SHORT;
        }

        /** An OPEN one is never taken as a SHORT one, however little its time is: the KIND that is told counts. */
        boolean isAlso(int test, int kind) {
            int told = kindOf(test);
            return kind == PLAIN || kind == told || kind == SHORT && told == POINT;
        }

        boolean passes(int test, long measured) {
            return measured >= lows[test] && measured <= highs[test];
        }

        int placeOf(int test) {
            for (int place = 0; place < count; place++) {
                if (order[place] == test) {
                    return place;
                }
            }
            return NONE;
        }

        void putAt(int test, int from, int to) {
            for (int place = from; place < to; place++) {
                order[place] = order[place + 1];
            }
            for (int place = from; place > to; place--) {
                order[place] = order[place - 1];
            }
            order[to] = test;
        }

        int binAtEnd(int end) {
            return end < count ? bins[order[end]] : 0;
        }

        int timeToEnd(int end) {
            int time = 0;
            for (int place = 0; place <= end && place < count; place++) {
                time += times[order[place]];
            }
            return time;
        }

        /** From the last TEST on: what comes behind a TEST is weighed by that TEST's share of passing. */
        long meanTime() {
            long mean = 0;
            long power = 1;
            for (int place = count - 1; place >= 0; place--) {
                int test = order[place];
                power *= WHOLE_SHARE;
                mean = times[test] * power + (WHOLE_SHARE - shares[test]) * mean;
            }
            return mean;
        }

        /**
         * Of two TESTS side by side the one with less time for each share of failing has to be ahead, and with as much
         * either may be; but behind a TEST that all fail nothing costs time, so any order is as good.
         */
        void takeBestOrder() {
            boolean costsTime = true;
            int left = (1 << count) - 1;
            for (int place = 0; place < count; place++) {
                int test = nextOfBest(left, costsTime);
                if (test == NONE) {
                    return;
                }
                left &= ~(1 << test);
                order[place] = test;
                costsTime = costsTime && shares[test] < WHOLE_SHARE;
            }
        }

        /** Of the TESTS left (bits) the one to be next; of several the one with the least number. */
        private int nextOfBest(int left, boolean costsTime) {
            int next = NONE;
            for (int test = 0; test < count; test++) {
                boolean isLeft = (left >> test & 1) == 1;
                if (isLeft && (next == NONE || costsTime && hasToBeAhead(test, next))) {
                    next = test;
                }
            }
            return next;
        }

        private boolean hasToBeAhead(int test, int other) {
            return times[test] * shares[other] < times[other] * shares[test];
        }
    }

    /** ASKS and THE TRACE of the BODIES that begin. */
    private static final class Asks {
        private final Tests tests;
        final int[] begun = new int[TRACED];
        int traceLength = 0;

        Asks(Tests tests) {
            this.tests = tests;
        }

        private void begin(int body) {
            if (traceLength < TRACED) {
                begun[traceLength] = body;
                traceLength++;
            }
        }

        int costOf(int test) {
            switch (tests.kindOf(test)) {
                case SHORT:
                    return costOfShort(test);
                case POINT:
                    return costOfPoint(test);
                case OPEN:
                    return costOfOpen();
                default:
                    return lentCost(test);
            }
        }

        private int lentCost(int test) {
            begin(10);
            return tests.times[test];
        }

        private int costOfShort(int test) {
            begin(11);
            return 2 * lentCost(test);
        }

        private int costOfPoint(int test) {
            begin(12);
            return costOfShort(test) + markOf(test);
        }

        private int costOfOpen() {
            begin(13);
            return 0;
        }

        int markOf(int test) {
            switch (tests.kindOf(test)) {
                case SHORT:
                case POINT:
                    return markOfShort(test);
                case OPEN:
                    return markOfOpen(test);
                default:
                    return lentMark(test);
            }
        }

        private int lentMark(int test) {
            begin(20);
            return tests.bins[test];
        }

        private int markOfShort(int test) {
            begin(21);
            return lentMark(test) + 100;
        }

        /** COST, asked anew, is that of an OPEN one; costOf() would ask in a ring. */
        private int markOfOpen(int test) {
            begin(22);
            return lentMark(test) + costOfOpen() + 1;
        }
    }

    /** THE LOG, its facts of each CHIP side by side, and the LOT, its last part. */
    private static final class Log {
        /** One CHIP more than THE LOG holds is never begun, as a full one is refused ahead. */
        private final int[] facts = new int[LOG_CHIPS * CHIP_FACTS];
        int length = 0;
        int lotStart = 0;

        int fact(int chip, int what) {
            return facts[chip * CHIP_FACTS + what];
        }

        void begin(int seat) {
            int row = length * CHIP_FACTS;
            facts[row + HAS_TRIES] = 0;
            facts[row + HAS_TIME] = 0;
            facts[row + HAS_FIRST_SEAT] = seat;
        }

        void addTry(int seat, int bin, int time) {
            int row = length * CHIP_FACTS;
            if (facts[row + HAS_TRIES] == 0) {
                facts[row + HAS_FIRST_BIN] = bin;
            }
            facts[row + HAS_BIN] = bin;
            facts[row + HAS_TRIES]++;
            facts[row + HAS_TIME] += time;
            facts[row + HAS_SEAT] = seat;
        }

        int keep() {
            length++;
            return length - 1;
        }

        int lotSize() {
            return length - lotStart;
        }

        int countOfBin(int bin) {
            int count = 0;
            for (int chip = lotStart; chip < length; chip++) {
                if (fact(chip, HAS_BIN) == bin) {
                    count++;
                }
            }
            return count;
        }

        int countOfSeat(int seat) {
            int count = 0;
            for (int chip = lotStart; chip < length; chip++) {
                if (fact(chip, HAS_FIRST_SEAT) == seat) {
                    count++;
                }
            }
            return count;
        }

        private int passedOfSeat(int seat) {
            int count = 0;
            for (int chip = lotStart; chip < length; chip++) {
                if (fact(chip, HAS_FIRST_SEAT) == seat && fact(chip, HAS_BIN) == 0) {
                    count++;
                }
            }
            return count;
        }

        boolean isHeld(int y, int m) {
            if (100 * countOfBin(0) < y * lotSize()) {
                return true;
            }
            for (int bin = 1; bin < BINS; bin++) {
                if (countOfBin(bin) > m) {
                    return true;
                }
            }
            return false;
        }

        /** In how many ways as many CHIPS as the SEAT had have as few of BIN 0, or fewer. */
        long waysSo(int seat) {
            int passed = countOfBin(0);
            int failed = lotSize() - passed;
            int ofSeat = countOfSeat(seat);
            int most = passedOfSeat(seat);
            long ways = 0;
            for (int k = 0; k <= most; k++) {
                ways += choose(passed, k) * choose(failed, ofSeat - k);
            }
            return ways;
        }
    }

    /** A WAFER, row by row; NONE at a place that is empty. */
    private static final class Wafer {
        private final int[] binAtPlace = new int[SIDE * SIDE];

        Wafer() {
            Arrays.fill(binAtPlace, NONE);
        }

        static boolean isPlace(int x, int y) {
            return isWithin(x, SIDE) && isWithin(y, SIDE);
        }

        int binAt(int x, int y) {
            return isPlace(x, y) ? binAtPlace[SIDE * y + x] : NONE;
        }

        int put(int x, int y, int bin) {
            int was = binAt(x, y);
            binAtPlace[SIDE * y + x] = bin;
            return was;
        }

        int filled() {
            int count = 0;
            for (int place = 0; place < SIDE * SIDE; place++) {
                if (binAtPlace[place] != NONE) {
                    count++;
                }
            }
            return count;
        }

        int oddCount(int number) {
            int count = 0;
            for (int place = 0; place < SIDE * SIDE; place++) {
                if (isOdd(place, number)) {
                    count++;
                }
            }
            return count;
        }

        int oddPlace(int number, int i) {
            int ahead = 0;
            for (int place = 0; place < SIDE * SIDE; place++) {
                if (isOdd(place, number)) {
                    if (ahead == i) {
                        return place;
                    }
                    ahead++;
                }
            }
            return NONE;
        }

        private boolean isOdd(int place, int number) {
            return binAtPlace[place] == 0 && failedAround(place % SIDE, place / SIDE) >= number;
        }

        /** The place itself counts for nothing here, as it has BIN 0. */
        private int failedAround(int x, int y) {
            int count = 0;
            for (int ny = y - 1; ny <= y + 1; ny++) {
                for (int nx = x - 1; nx <= x + 1; nx++) {
                    if (binAt(nx, ny) > 0) {
                        count++;
                    }
                }
            }
            return count;
        }
    }
}
