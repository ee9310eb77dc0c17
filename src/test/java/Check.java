/** Compares answers with those that are due, prints the others, and ends the program by exit code 1 if there was one. */
final class Check {
    private final String name;
    private int compared = 0;
    private int wrong = 0;

    Check(String name) {
        this.name = name;
    }

    void due(String call, long got, long want) {
        compared++;
        if (got != want) {
            wrong++;
            System.out.println(name + ": " + call + " answered " + got + ", due is " + want);
        }
    }

    /** Feeds a text to the tape, as many bytes a call as go: an object has 512 calls, and the tape 400 bytes. */
    static void tape(TestFloor x, String text) {
        for (int from = 0; from < text.length(); from += 8) {
            int to = Math.min(from + 8, text.length());
            long bytes = 0;
            for (int i = from; i < to; i++) {
                bytes = bytes << 8 | text.charAt(i);
            }
            x.feed(bytes, to - from);
        }
    }

    /** A SHEET of ints with just these ITEMS. */
    static void sheetOf(TestFloor x, int sheet, int... items) {
        x.sheet(sheet, 2, items.length);
        for (int i = 0; i < items.length; i++) {
            x.set(sheet, i, items[i]);
        }
    }

    /** How many of n ITEMS from i on are not 0: each is looked at as an edge of its own. */
    static int notZero(TestFloor x, int sheet, int i, int n) {
        int count = 0;
        for (int k = 0; k < n; k++) {
            count += 1 - x.edge(sheet, i + k, 1, 0);
        }
        return count;
    }

    void end() {
        System.out.println(name + ": " + compared + " answers compared, " + wrong + " not as due");
        if (wrong != 0) {
            System.exit(1);
        }
    }
}
