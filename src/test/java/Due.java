/** Counts the answers that are not the ones due, and ends a test by them. */
final class Due {
    private int asked = 0;
    private int wrong = 0;
    private String sentence = "";

    /** The sentence of the document that asks for the answers from here on. */
    void sentence(String words) {
        sentence = "\"" + words + "\" ";
    }

    void is(String call, long got, long want) {
        asked++;
        if (got != want) {
            wrong++;
            System.out.println(sentence + call + " answered " + got + ", due is " + want);
        }
    }

    void is(String call, boolean got, boolean want) {
        is(call, got ? 1 : 0, want ? 1 : 0);
    }

    /** A whole block on the disk; the words that are not given are 0. */
    void block(String when, JournaledTables x, int b, int... words) {
        for (int w = 0; w < 16; w++) {
            is(when + ": peek(" + b + ", " + w + ")", x.peek(b, w), w < words.length ? words[w] : 0);
        }
    }

    /** The rows of a table that a scan of all keys goes over, by word i of each. */
    void rows(String when, JournaledTables x, int t, int i, int... words) {
        int c = x.openScan(t, 0, Integer.MIN_VALUE, Integer.MAX_VALUE);
        for (int word : words) {
            is(when + ": next", x.next(c), true);
            is(when + ": col", x.col(c, i), word);
        }
        is(when + ": next behind the last row", x.next(c), false);
        is(when + ": closeScan", x.closeScan(c), 0);
    }

    void end() {
        System.out.println(asked + " answers, " + wrong + " of them not as due");
        if (wrong != 0 || asked == 0) {
            System.exit(1);
        }
    }

    /** Stages a row, from word 0 on, and puts it into a table. */
    static int put(JournaledTables x, int t, int... row) {
        for (int i = 0; i < row.length; i++) {
            x.stage(i, row[i]);
        }
        return x.insert(t);
    }

    /** A store with a transaction open and a table for each width. */
    static JournaledTables open(int... widths) {
        JournaledTables x = new JournaledTables();
        x.begin();
        for (int width : widths) {
            x.createTable(width);
        }
        return x;
    }

    static int rowsWithRoom(int width) {
        return 15 * (13 / width);
    }

    /**
     * A store with a transaction open and a table 0 that takes every page: its keys are 0, 1, ..,
     * and word i of a row is its key and 1000 i.
     */
    static JournaledTables full(int width) {
        JournaledTables x = open(width);
        int[] row = new int[width];
        for (int key = 0; key < rowsWithRoom(width); key++) {
            for (int i = 0; i < width; i++) {
                row[i] = key + 1000 * i;
            }
            put(x, 0, row);
        }
        return x;
    }

    /** The power of a store goes off at its next write, and so at once. */
    static void cutPower(JournaledTables x) {
        x.begin();
        if (x.createTable(2) == JournaledTables.NOROOM) {
            x.dropTable(4);
        }
        x.crashAfter(0);
        x.commit();
    }
}
