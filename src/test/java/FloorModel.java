import java.math.BigInteger;
import java.util.ArrayList;
import java.util.Collections;
import java.util.HashMap;
import java.util.List;
import java.util.Map;
import java.util.regex.Matcher;
import java.util.regex.Pattern;

/**
 * The document told once more, in other ways than the program's and with all of the Java library: all CYCLES spread
 * out, all orders tried, numbers of any size. Slow, and for the tests alone.
 */
final class FloorModel {
    static final int NONE = -1000000, BAD = -1000001, STATE = -1000002, FULL = -1000003;

    private static final class Fault extends Exception {
        private static final long serialVersionUID = 1;
        final int number;
        final int place;

        Fault(int number, int place) {
            this.number = number;
            this.place = place;
        }
    }

    private record Row(int low, int high, int time, int bin) {
    }

    private record Out(int bin, int tries, int time, int lastSeat, int firstSeat, int firstBin) {
        int[] all() {
            return new int[] {bin, tries, time, lastSeat, firstSeat, firstBin};
        }
    }

    private final Map<Integer, int[]> sheets = new HashMap<>();
    private final Map<Integer, Integer> lanes = new HashMap<>();
    private int status = 0;
    private String tape = "";
    private List<String> cycles = new ArrayList<>();
    private int lines = 0;
    private int pins = 0;
    private int fault = 0;
    private final List<Row> tests = new ArrayList<>();
    private final Map<Integer, Integer> shares = new HashMap<>();
    private List<Integer> flow = new ArrayList<>();
    private List<Integer> trace = new ArrayList<>();
    private final Integer[] adds = {0, 0, 0, 0, 0, 0, 0, 0};
    private int lawBins = 0;
    private int lawTries = 1;
    private final List<Out> log = new ArrayList<>();
    private int lotFrom = 0;
    private final Map<Integer, Integer> first = new HashMap<>();
    private final Map<Integer, Integer> second = new HashMap<>();

    // ---- sheets

    private static boolean in(long v, long least, long most) {
        return least <= v && v <= most;
    }

    private int finding(int number) {
        status = number;
        return -1000010 - number;
    }

    private int fine(int answer) {
        status = 0;
        return answer;
    }

    int sheet(int sheet, int lane, int n) {
        if (!in(sheet, 0, 7) || !in(lane, 0, 2) || n > 100) return BAD;
        if (n < 0) return finding(4);
        sheets.put(sheet, new int[n]);
        lanes.put(sheet, lane);
        return fine(n);
    }

    int set(int sheet, int i, int v) {
        if (!in(sheet, 0, 7)) return BAD;
        int[] items = sheets.get(sheet);
        if (items == null) return finding(1);
        if (!in(i, 0, items.length - 1)) return finding(2);
        int shift = new int[] {24, 16, 0}[lanes.get(sheet)];
        items[i] = v << shift >> shift;
        return fine(items[i]);
    }

    int copy(int a, int i, int b, int j, int n) {
        if (!in(a, 0, 7) || !in(b, 0, 7)) return BAD;
        if (!sheets.containsKey(a) || !sheets.containsKey(b)) return finding(1);
        if (!lanes.get(a).equals(lanes.get(b))) return finding(5);
        int[] from = sheets.get(a);
        int[] to = sheets.get(b);
        if (i < 0 || j < 0 || n < 0 || 0L + i + n > from.length || 0L + j + n > to.length) return finding(2);
        int[] were = from.clone();
        for (int k = 0; k < n; k++) to[j + k] = were[i + k];
        return fine(n);
    }

    int drop(int sheet) {
        if (!in(sheet, 0, 7)) return BAD;
        int[] items = sheets.remove(sheet);
        return items == null ? finding(1) : fine(items.length);
    }

    // ---- patterns

    int feed(long w, int n) {
        if (!in(n, 1, 8)) return BAD;
        if (tape.length() + n > 400) return FULL;
        byte[] all = java.nio.ByteBuffer.allocate(8).putLong(w).array();
        for (int k = 8 - n; k < 8; k++) tape += (char) (all[k] & 0xff);
        return tape.length();
    }

    private final class Reading {
        final String text;
        int at = 0;
        int lines = 0;
        int pins = 0;

        Reading(String text) {
            this.text = text;
        }

        private Matcher here(String regex) {
            Matcher m = Pattern.compile(regex).matcher(text).region(at, text.length());
            return m.lookingAt() ? m : null;
        }

        List<String> text(int depth) throws Fault {
            List<String> told = new ArrayList<>();
            while (true) {
                at = here("[ \n]*").end();
                if (at == text.length()) {
                    if (depth > 0) throw new Fault(1, at);
                    return told;
                }
                if (text.charAt(at) == ')') {
                    if (depth == 0) throw new Fault(1, at);
                    return told;
                }
                Matcher line = here("([01LHX]{1,8});");
                Matcher number = here("([0-9]{1,3})[ \n]*\\(");
                if (line != null) {
                    line(line.group(1), told);
                    at = line.end();
                } else if (number != null) {
                    loop(number, told, depth);
                } else {
                    throw new Fault(1, at);
                }
            }
        }

        private void line(String signs, List<String> told) throws Fault {
            if (lines == 0) pins = signs.length();
            if (signs.length() != pins) throw new Fault(2, at);
            lines++;
            if (told.size() == 100000) throw new Fault(4, at);
            told.add(signs);
        }

        private void loop(Matcher number, List<String> told, int depth) throws Fault {
            int times = Integer.parseInt(number.group(1));
            if (times == 0) throw new Fault(3, at);
            if (depth == 6) throw new Fault(4, at);
            at = number.end();
            List<String> within = text(depth + 1);
            if (told.size() + (long) times * within.size() > 100000) throw new Fault(4, at);
            if (!within.isEmpty()) {
                for (int k = 0; k < times; k++) told.addAll(within);
            }
            at++;
        }
    }

    int pattern() {
        Reading reading = new Reading(tape);
        tape = "";
        try {
            cycles = reading.text(0);
            lines = reading.lines;
            pins = reading.pins;
            return cycles.size();
        } catch (Fault f) {
            fault = f.number;
            return -1000100 - f.place;
        }
    }

    int fault() {
        return fault;
    }

    int sign(int cycle, int pin) {
        return in(cycle, 0, cycles.size() - 1) && in(pin, 0, pins - 1) ? cycles.get(cycle).charAt(pin) : NONE;
    }

    int compare(int sheet, int what) {
        if (!in(sheet, 0, 7) || !in(what, 0, 2)) return BAD;
        if (cycles.isEmpty()) return STATE;
        int[] items = sheets.get(sheet);
        if (items == null) return finding(1);
        if (items.length == 0) return finding(2);
        int firstCycle = NONE;
        int firstPin = NONE;
        int all = 0;
        for (int c = 0; c < cycles.size(); c++) {
            for (int p = 0; p < pins; p++) {
                boolean isOne = (items[c % items.length] & 1 << p) != 0;
                char sign = cycles.get(c).charAt(p);
                if (sign == 'L' && isOne || sign == 'H' && !isOne) {
                    if (all == 0) {
                        firstCycle = c;
                        firstPin = p;
                    }
                    all++;
                }
            }
        }
        return fine(new int[] {firstCycle, firstPin, all}[what]);
    }

    // ---- tests

    int test(int low, int high, int time, int bin) {
        if (!in(time, 1, 999) || !in(bin, 1, 15)) return BAD;
        if (tests.size() == 10) return FULL;
        tests.add(new Row(low, high, time, bin));
        flow.add(tests.size() - 1);
        return tests.size() - 1;
    }

    private boolean isTest(int test) {
        return in(test, 0, tests.size() - 1);
    }

    int move(int test, int place) {
        if (!isTest(test) || !isTest(place)) return BAD;
        int was = flow.indexOf(test);
        flow.remove(was);
        flow.add(place, test);
        return was;
    }

    int flow(int place) {
        return isTest(place) ? flow.get(place) : NONE;
    }

    /** The KINDS once more, as Java's own classes: what a BODY begins is found by Java itself. */
    private static class Plain {
        final Row row;
        final List<Integer> trace;

        Plain(Row row, List<Integer> trace) {
            this.row = row;
            this.trace = trace;
        }

        int cost() {
            trace.add(10);
            return row.time;
        }

        int mark() {
            trace.add(20);
            return row.bin;
        }
    }

    private static class Short extends Plain {
        Short(Row row, List<Integer> trace) {
            super(row, trace);
        }

        @Override
        int cost() {
            trace.add(11);
            return 2 * super.cost();
        }

        @Override
        int mark() {
            trace.add(21);
            return super.mark() + 100;
        }
    }

    private static final class Point extends Short {
        Point(Row row, List<Integer> trace) {
            super(row, trace);
        }

        @Override
        int cost() {
            trace.add(12);
            return super.cost() + mark();
        }
    }

    private static final class Open extends Plain {
        Open(Row row, List<Integer> trace) {
            super(row, trace);
        }

        @Override
        int cost() {
            trace.add(13);
            return 0;
        }

        @Override
        int mark() {
            trace.add(22);
            return super.mark() + cost() + 1;
        }
    }

    private Plain object(int test, List<Integer> trace) {
        Row row = tests.get(test);
        if (row.low > row.high) return new Open(row, trace);
        if (row.low == row.high && row.time <= 9) return new Point(row, trace);
        return row.time <= 9 ? new Short(row, trace) : new Plain(row, trace);
    }

    int kind(int test) {
        if (!isTest(test)) return BAD;
        return List.of(Plain.class, Short.class, Point.class, Open.class).indexOf(object(test, trace).getClass());
    }

    int as(int test, int kind) {
        if (!isTest(test) || !in(kind, 0, 3)) return BAD;
        Class<?> asked = List.of(Plain.class, Short.class, Point.class, Open.class).get(kind);
        return asked.isInstance(object(test, trace)) ? fine(tests.get(test).time) : finding(3);
    }

    int ask(int test, int what) {
        if (!isTest(test) || !in(what, 0, 1)) return BAD;
        trace = new ArrayList<>();
        Plain object = object(test, trace);
        return what == 0 ? object.cost() : object.mark();
    }

    int trace(int i) {
        return in(i, 0, trace.size() - 1) ? trace.get(i) : NONE;
    }

    // ---- chips

    int seat(int seat, int add) {
        if (!in(seat, 0, 7) || !in(add, -1000, 1000)) return BAD;
        Integer was = adds[seat];
        adds[seat] = add;
        return was == null ? NONE : was;
    }

    int dead(int seat) {
        if (!in(seat, 0, 7)) return BAD;
        int news = adds[seat] == null ? 0 : 1;
        adds[seat] = null;
        return news;
    }

    int law(int bins, int tries) {
        if ((bins | 0xfffe) != 0xfffe || !in(tries, 1, 4)) return BAD;
        lawBins = bins;
        lawTries = tries;
        return 1;
    }

    int chip(int sheet, int seat) {
        if (!in(sheet, 0, 7) || !in(seat, 0, 7)) return BAD;
        if (tests.isEmpty()) return STATE;
        if (log.size() == 200) return FULL;
        int[] items = sheets.get(sheet);
        if (items == null) return finding(1);
        int time = 0;
        int firstBin = NONE;
        int at = seat;
        for (int tries = 1; true; tries++) {
            int bin = 0;
            if (adds[at] == null) {
                bin = 15;
            } else {
                for (int test : flow) {
                    if (test >= items.length) return finding(2);
                    Row row = tests.get(test);
                    time += row.time;
                    BigInteger sum = BigInteger.valueOf(items[test]).add(BigInteger.valueOf(adds[at]));
                    if (sum.compareTo(BigInteger.valueOf(row.low)) < 0
                        || sum.compareTo(BigInteger.valueOf(row.high)) > 0) {
                        bin = row.bin;
                        break;
                    }
                }
            }
            if (tries == 1) firstBin = bin;
            if (tries == lawTries || !BigInteger.valueOf(lawBins).testBit(bin)) {
                log.add(new Out(bin, tries, time, at, seat, firstBin));
                return fine(log.size() - 1);
            }
            at = at == 7 ? 0 : at + 1;
        }
    }

    int told(int chip, int what) {
        return in(chip, 0, log.size() - 1) && in(what, 0, 5) ? log.get(chip).all()[what] : BAD;
    }

    // ---- orders

    int share(int test, int f) {
        if (!isTest(test) || !in(f, 0, 10)) return BAD;
        Integer was = shares.put(test, f);
        return was == null ? 0 : was;
    }

    private static BigInteger meanOf(int[] times, int[] shares, List<Integer> order) {
        BigInteger sum = BigInteger.ZERO;
        for (int k = 0; k < order.size(); k++) {
            BigInteger part = BigInteger.valueOf(times[order.get(k)]).multiply(BigInteger.TEN.pow(order.size() - k));
            for (int ahead = 0; ahead < k; ahead++) {
                part = part.multiply(BigInteger.valueOf(10 - shares[order.get(ahead)]));
            }
            sum = sum.add(part);
        }
        return sum;
    }

    private int[] timesOf() {
        return tests.stream().mapToInt(Row::time).toArray();
    }

    private int[] sharesOf() {
        int[] of = new int[tests.size()];
        for (int k = 0; k < of.length; k++) of[k] = shares.getOrDefault(k, 0);
        return of;
    }

    long mean() {
        return meanOf(timesOf(), sharesOf(), flow).longValueExact();
    }

    long order() {
        int[] best = new int[tests.size()];
        long least = bestOrder(timesOf(), sharesOf(), best);
        flow = new ArrayList<>();
        for (int test : best) flow.add(test);
        return least;
    }

    /** Tries all orders, those with the least numbers first; the first of the least MEAN TIMES comes into best. */
    static long bestOrder(int[] times, int[] shares, int[] best) {
        BigInteger[] least = {null};
        tryOrders(times, shares, new ArrayList<>(), best, least);
        return least[0].longValueExact();
    }

    private static void tryOrders(int[] times, int[] shares, List<Integer> order, int[] best, BigInteger[] least) {
        if (order.size() == times.length) {
            BigInteger mean = meanOf(times, shares, order);
            if (least[0] == null || mean.compareTo(least[0]) < 0) {
                least[0] = mean;
                for (int k = 0; k < best.length; k++) best[k] = order.get(k);
            }
            return;
        }
        for (int test = 0; test < times.length; test++) {
            if (!order.contains(test)) {
                order.add(test);
                tryOrders(times, shares, order, best, least);
                order.remove(order.size() - 1);
            }
        }
    }

    private static int[] halve(int[] part, int low, int high, int looked) {
        if (low == high) return new int[] {low, looked};
        int middle = low + (high - low) / 2;
        return part[middle] != 0 ? halve(part, low, middle, looked + 1) : halve(part, middle + 1, high, looked + 1);
    }

    int edge(int sheet, int i, int n, int what) {
        if (!in(sheet, 0, 7) || !in(n, 1, 60) || !in(what, 0, 2)) return BAD;
        int[] items = sheets.get(sheet);
        if (items == null) return finding(1);
        if (i < 0 || 0L + i + n > items.length) return finding(2);
        int[] part = java.util.Arrays.copyOfRange(items, i, i + n);
        int[] found = halve(part, 0, n, 0);
        StringBuilder shape = new StringBuilder();
        for (int item : part) shape.append(item == 0 ? '0' : '1');
        String right = "0".repeat(found[0]) + "1".repeat(n - found[0]);
        return fine(new int[] {found[0], found[1], shape.toString().equals(right) ? 1 : 0}[what]);
    }

    // ---- wafers

    int die(int wafer, int x, int y, int bin) {
        if (!in(wafer, 0, 1) || !in(x, 0, 11) || !in(y, 0, 11) || !in(bin, 0, 15) && bin != NONE) return BAD;
        Map<Integer, Integer> map = wafer == 0 ? first : second;
        Integer was = bin == NONE ? map.remove(12 * y + x) : map.put(12 * y + x, bin);
        return was == null ? NONE : was;
    }

    int odd(int wafer, int number, int i) {
        if (!in(wafer, 0, 1) || !in(number, 1, 8)) return BAD;
        Map<Integer, Integer> map = wafer == 0 ? first : second;
        List<Integer> odd = new ArrayList<>();
        for (int place : map.keySet()) {
            if (map.get(place) != 0) continue;
            int others = 0;
            for (int other : map.keySet()) {
                int dx = Math.abs(other % 12 - place % 12);
                int dy = Math.abs(other / 12 - place / 12);
                if (Math.max(dx, dy) == 1 && map.get(other) != 0) others++;
            }
            if (others >= number) odd.add(place);
        }
        Collections.sort(odd);
        if (i == NONE) return odd.size();
        return in(i, 0, odd.size() - 1) ? odd.get(i) : NONE;
    }

    int join(int dx, int dy, int what) {
        if (!in(dx, -3, 3) || !in(dy, -3, 3) || !in(what, 0, 3)) return BAD;
        return joined(dx, dy)[what];
    }

    private int[] joined(int dx, int dy) {
        Map<Integer, Integer> moved = new HashMap<>();
        int beyond = 0;
        for (Map.Entry<Integer, Integer> e : second.entrySet()) {
            int x = e.getKey() % 12 + dx;
            int y = e.getKey() / 12 + dy;
            if (in(x, 0, 11) && in(y, 0, 11)) {
                moved.put(12 * y + x, e.getValue());
            } else {
                beyond++;
            }
        }
        int twice = 0;
        int same = 0;
        int missing = 0;
        for (int place : first.keySet()) {
            if (!moved.containsKey(place)) {
                missing++;
            } else {
                twice++;
                if (first.get(place).equals(moved.get(place))) same++;
            }
        }
        for (int place : moved.keySet()) {
            if (!first.containsKey(place)) beyond++;
        }
        return new int[] {twice, same, missing, beyond};
    }

    int best(int what) {
        if (!in(what, 0, 2)) return BAD;
        List<int[]> moves = new ArrayList<>();
        for (int dx = -3; dx <= 3; dx++) {
            for (int dy = -3; dy <= 3; dy++) {
                int[] j = joined(dx, dy);
                moves.add(new int[] {dx, dy, j[1], j[0]});
            }
        }
        moves.sort((a, b) -> a[2] != b[2] ? b[2] - a[2] : a[3] != b[3] ? a[3] - b[3] : a[0] != b[0] ? a[0] - b[0]
            : a[1] - b[1]);
        return moves.get(0)[what];
    }

    // ---- lots

    private List<Out> theLot() {
        return log.subList(lotFrom, log.size());
    }

    int lot() {
        int had = theLot().size();
        lotFrom = log.size();
        return had;
    }

    int bins(int bin) {
        return in(bin, 0, 15) ? (int) theLot().stream().filter(c -> c.bin == bin).count() : BAD;
    }

    int held(int y, int m) {
        if (!in(y, 0, 100) || m < 0) return BAD;
        if (theLot().isEmpty()) return STATE;
        boolean isHeld = bins(0) * 100.0 / theLot().size() < y - 1e-9;
        for (int bin = 1; bin < 16; bin++) isHeld |= bins(bin) > m;
        return isHeld ? 1 : 0;
    }

    private static BigInteger factorial(int n) {
        return n == 0 ? BigInteger.ONE : BigInteger.valueOf(n).multiply(factorial(n - 1));
    }

    private static BigInteger ways(int n, int k) {
        return k < 0 || k > n ? BigInteger.ZERO : factorial(n).divide(factorial(k)).divide(factorial(n - k));
    }

    long chance(int seat, int what) {
        if (!in(seat, 0, 7) || !in(what, 0, 1)) return BAD;
        int all = theLot().size();
        int passed = bins(0);
        int seated = (int) theLot().stream().filter(c -> c.firstSeat == seat).count();
        int both = (int) theLot().stream().filter(c -> c.firstSeat == seat && c.bin == 0).count();
        if (seated == 0 || all > 40) return STATE;
        if (what == 1) return ways(all, seated).longValueExact();
        BigInteger sum = BigInteger.ZERO;
        for (int k = 0; k <= both; k++) sum = sum.add(ways(passed, k).multiply(ways(all - passed, seated - k)));
        return sum.longValueExact();
    }

    int count(int what) {
        if (!in(what, 0, 7)) return BAD;
        int dead = 0;
        for (Integer a : adds) dead += a == null ? 1 : 0;
        return new int[] {sheets.size(), tests.size(), log.size(), theLot().size(), dead, pins, lines,
            tape.length()}[what];
    }

    int status() {
        return status;
    }
}
