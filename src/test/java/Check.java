/** Compares answers with those that are due, prints the others, and ends a test's program by exit code 1 if there was one. */
final class Check {
    private final String name;
    private int compared = 0;
    private int wrong = 0;

    Check(String name) {
        this.name = name;
    }

    void due(String call, long got, long want) {
        compared++;
        if (got != want) {
            wrong++;
            System.out.println(name + ": " + call + " answered " + got + ", due is " + want);
        }
    }

    /** Feeds a text to the tape, byte by byte. */
    static void tape(TestFloor x, String text) {
        for (int i = 0; i < text.length(); i++) {
            x.feed(text.charAt(i), 1);
        }
    }

    /** A SHEET of ints with just these ITEMS. */
    static void sheetOf(TestFloor x, int sheet, int... items) {
        x.sheet(sheet, 2, items.length);
        for (int i = 0; i < items.length; i++) {
            x.set(sheet, i, items[i]);
        }
    }

    void end() {
        System.out.println(name + ": " + compared + " answers compared, " + wrong + " not as due");
        if (wrong != 0) {
            System.exit(1);
        }
    }
}
