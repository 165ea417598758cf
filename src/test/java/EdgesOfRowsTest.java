/** The boundaries in the sentences of promises 8 to 14: the staged row, rows, and what is read of them. */
public final class EdgesOfRowsTest {
    private static final Due due = new Due();
    private static final int[] KEYS = {Integer.MIN_VALUE, -1, 0, 1, Integer.MAX_VALUE};

    public static void main(String[] args) {
        stageNumbers();
        stageWords();
        insertFirstWords();
        insertFirstPageWithRoom();
        insertLowestSlot();
        insertNewPage();
        insertTables();
        insertKeys();
        insertWithoutRoom();
        insertWithRoomElsewhere();
        deletePages();
        deleteLastRow();
        deleteRefused();
        updateCols();
        updateKeys();
        lookupCols();
        lookupKeys();
        hasKeys();
        hasTables();
        counts();
        countTables();
        due.end();
    }

    private static void stageNumbers() {
        due.sentence("Word i (0 .. 5) of the staged row becomes this. DOWN; BADARG.");
        JournaledTables x = Due.open(6);
        due.is("stage(-1)", x.stage(-1, 90), JournaledTables.BADARG);
        due.is("stage(0)", x.stage(0, 91), 0);
        due.is("stage(5)", x.stage(5, 92), 0);
        due.is("stage(6)", x.stage(6, 93), JournaledTables.BADARG);
        due.is("stage of the least", x.stage(Integer.MIN_VALUE, 94), JournaledTables.BADARG);
        due.is("stage of the most", x.stage(Integer.MAX_VALUE, 95), JournaledTables.BADARG);
        x.insert(0);
        x.commit();
        due.block("the row", x, 1, 1, 0, 1, 91, 0, 0, 0, 0, 92);
        due.is("stage outside a transaction", x.stage(0, 96), 0);
        x.begin();
        x.insert(0);
        due.is("it holds", x.has(0, 96), true);
        x.crashAfter(0);
        x.commit();
        due.is("stage(0) without power", x.stage(0, 97), JournaledTables.DOWN);
        x.recover();
        x.begin();
        x.insert(0);
        due.is("what is staged without power is not", x.has(0, 97), false);
        due.is("but what was before", x.has(0, 96), true);
    }

    private static void stageWords() {
        due.sentence("Word i (0 .. 5) of the staged row becomes this.");
        JournaledTables x = Due.open(2);
        for (int word : KEYS) {
            due.is("stage", x.stage(0, word), 0);
            due.is("stage", x.stage(1, word), 0);
            due.is("insert", x.insert(0), 0);
            due.is("word 0", x.lookup(0, word, 0), word);
            due.is("word 1", x.lookup(0, word, 1), word);
        }
        x.stage(1, 5);
        x.stage(1, 6);
        x.stage(0, 7);
        x.insert(0);
        due.is("the later one counts", x.lookup(0, 7, 1), 6);
        x.stage(1, 8);
        due.is("a row that is in stays", x.lookup(0, 7, 1), 6);
    }

    private static void insertFirstWords() {
        due.sentence("Puts the first words of the staged row into a table");
        for (int width = 2; width <= 6; width++) {
            JournaledTables x = Due.open(width);
            due.is("insert", Due.put(x, 0, 11, 12, 13, 14, 15, 16), 0);
            x.commit();
            for (int i = 0; i < 6; i++) {
                due.is("word " + i + " of width " + width, x.peek(1, 3 + i), i < width ? 11 + i : 0);
            }
        }
    }

    private static JournaledTables threePages() {
        JournaledTables x = Due.open(6);
        for (int key = 1; key <= 6; key++) {
            Due.put(x, 0, key);
        }
        return x;
    }

    private static void insertFirstPageWithRoom() {
        due.sentence("into the first page, in the order in which they follow one another, that has a slot without a row");
        for (int page = 1; page <= 3; page++) {
            JournaledTables x = threePages();
            x.deleteKey(0, 2 * page);
            Due.put(x, 0, 50);
            x.commit();
            due.is("into page " + page, x.peek(page, 9), 50);
            due.block("no fourth page", x, 4);
        }
        JournaledTables x = threePages();
        x.deleteKey(0, 4);
        x.deleteKey(0, 6);
        Due.put(x, 0, 50);
        Due.put(x, 0, 51);
        Due.put(x, 0, 52);
        x.commit();
        due.is("the first of two pages", x.peek(2, 9), 50);
        due.is("then the other", x.peek(3, 9), 51);
        due.is("then a new one", x.peek(4, 3), 52);
    }

    private static void insertLowestSlot() {
        due.sentence("into the lowest of these");
        for (int s = 0; s < 6; s++) {
            JournaledTables x = Due.open(2);
            for (int key = 1; key <= 6; key++) {
                Due.put(x, 0, key);
            }
            x.deleteKey(0, s + 1);
            if (s < 5) {
                x.deleteKey(0, 6);
            }
            due.is("insert", Due.put(x, 0, 50), 0);
            x.commit();
            due.is("into slot " + s, x.peek(1, 3 + 2 * s), 50);
            due.is("slots with a row", x.peek(1, 2), s < 5 ? 31 : 63);
        }
    }

    private static void insertNewPage() {
        due.sentence("when there is none, into slot 0 of a new page, the lowest that is free, "
                + "which follows the last one (or is the first)");
        JournaledTables x = Due.open(6, 6);
        due.is("insert", Due.put(x, 1, 1), 0);
        for (int key = 1; key <= 28; key++) {
            Due.put(x, 0, key);
        }
        x.commit();
        due.is("the first of table 1", x.peek(0, 9), 1);
        due.is("the first of table 0", x.peek(0, 8), 2);
        for (int page = 2; page < 15; page++) {
            due.is("what follows page " + page, x.peek(page, 1), page + 1);
        }
        x.begin();
        due.is("the last slot of table 1", Due.put(x, 1, 2), 0);
        x.dropTable(1);
        due.is("insert", Due.put(x, 0, 29), 0);
        x.commit();
        due.is("page 1 follows page 15", x.peek(15, 1), 1);
        due.block("in slot 0 of page 1", x, 1, 1, 0, 1, 29);
        due.is("page 2 is still the first", x.peek(0, 8), 2);
    }

    private static void insertTables() {
        due.sentence("DOWN; NOTXN; NOTABLE; DUPKEY; NOROOM.");
        JournaledTables x = Due.open(2, 2, 2, 2);
        due.is("insert(-1)", x.insert(-1), JournaledTables.NOTABLE);
        due.is("insert(0)", x.insert(0), 0);
        due.is("insert(3)", x.insert(3), 0);
        due.is("insert(4) without it", x.insert(4), JournaledTables.NOTABLE);
        x.createTable(2);
        due.is("insert(4)", x.insert(4), 0);
        due.is("insert(5)", x.insert(5), JournaledTables.NOTABLE);
        x.dropTable(4);
        due.is("insert(4) behind its drop", x.insert(4), JournaledTables.NOTABLE);
        x.commit();
        due.is("behind commit", Due.put(x, 0, 9), JournaledTables.NOTXN);
        x.begin();
        due.is("behind begin", x.insert(0), 0);
        x.crashAfter(0);
        x.commit();
        due.is("without power", x.insert(1), JournaledTables.DOWN);
        x.recover();
        due.is("rows", x.count(0), 1);
    }

    private static void insertKeys() {
        due.sentence("DOWN; NOTXN; NOTABLE; DUPKEY; NOROOM.");
        for (int key : KEYS) {
            JournaledTables x = Due.open(2);
            due.is("insert of " + key, Due.put(x, 0, key, 1), 0);
            due.is("again", Due.put(x, 0, key, 2), JournaledTables.DUPKEY);
            due.is("one more, wrapping", Due.put(x, 0, key + 1, 3), 0);
            due.is("one less, wrapping", Due.put(x, 0, key - 1, 4), 0);
            due.is("the first stays", x.lookup(0, key, 1), 1);
            due.is("count", x.count(0), 3);
            x.deleteKey(0, key);
            due.is("once it is gone", Due.put(x, 0, key, 5), 0);
        }
    }

    private static void insertWithoutRoom() {
        due.sentence("DOWN; NOTXN; NOTABLE; DUPKEY; NOROOM.");
        int[] rows = {90, 60, 45, 30, 30};
        for (int width = 2; width <= 6; width++) {
            JournaledTables x = Due.full(width);
            int last = rows[width - 2] - 1;
            due.is("rows of width " + width, x.count(0), last + 1);
            due.is("the last row", x.lookup(0, last, 1), 1000 + last);
            due.is("one row more", Due.put(x, 0, -1), JournaledTables.NOROOM);
            due.is("a key that is there", Due.put(x, 0, last), JournaledTables.DUPKEY);
            x.deleteKey(0, last);
            due.is("one row less", Due.put(x, 0, -1), 0);
            due.is("and full again", Due.put(x, 0, -2), JournaledTables.NOROOM);
            x.commit();
            due.is("the last page", x.peek(15, 0), 1);
            due.is("is the last", x.peek(15, 1), 0);
        }
    }

    private static void insertWithRoomElsewhere() {
        due.sentence("when there is none, into slot 0 of a new page, the lowest that is free");
        JournaledTables x = Due.full(6);
        x.createTable(2);
        x.deleteKey(0, 28);
        due.is("a slot of another table is no room", Due.put(x, 1, 1), JournaledTables.NOROOM);
        due.is("no row came", x.count(1), 0);
        x.deleteKey(0, 29);
        due.is("a page that it left is", Due.put(x, 1, 1), 0);
        for (int key = 2; key <= 6; key++) {
            due.is("so are its slots", Due.put(x, 1, key), 0);
        }
        due.is("but no more", Due.put(x, 1, 7), JournaledTables.NOROOM);
        due.is("nor for the other table", Due.put(x, 0, 29), JournaledTables.NOROOM);
    }

    private static void deletePages() {
        due.sentence("a page that has no row then becomes free, the one before it (or the catalogue) "
                + "leads to the one behind it.");
        int[][] leads = {{2, 0, 3, 0}, {1, 3, 0, 0}, {1, 2, 0, 0}};
        for (int page = 1; page <= 3; page++) {
            JournaledTables x = threePages();
            due.is("one row of two", x.deleteKey(0, 2 * page - 1), 0);
            x.commit();
            due.is("the page stays", x.peek(page, 0), 1);
            due.is("with slot 1", x.peek(page, 2), 2);
            x.begin();
            due.is("the other row", x.deleteKey(0, 2 * page), 0);
            x.commit();
            due.block("the page is free", x, page);
            due.is("the catalogue leads to", x.peek(0, 8), leads[page - 1][0]);
            for (int before = 1; before <= 3; before++) {
                due.is("page " + before + " leads to", x.peek(before, 1), leads[page - 1][before]);
            }
            due.is("four rows are left", x.count(0), 4);
        }
    }

    private static void deleteLastRow() {
        due.sentence("Takes a row out; a page that has no row then becomes free");
        JournaledTables x = Due.open(2);
        for (int key : KEYS) {
            Due.put(x, 0, key, 5);
        }
        for (int i = 0; i < KEYS.length; i++) {
            due.is("count", x.count(0), KEYS.length - i);
            due.is("deleteKey(" + KEYS[i] + ")", x.deleteKey(0, KEYS[i]), 0);
            due.is("again", x.deleteKey(0, KEYS[i]), JournaledTables.NOKEY);
        }
        due.is("no row", x.count(0), 0);
        x.commit();
        due.block("the table stays, without a page", x, 0, 2);
        due.block("the page is free", x, 1);
    }

    private static void deleteRefused() {
        due.sentence("DOWN; NOTXN; NOTABLE; NOKEY.");
        JournaledTables x = Due.open(2, 2, 2, 2, 2);
        due.is("a table without a row", x.deleteKey(0, 0), JournaledTables.NOKEY);
        Due.put(x, 0, 5, 6);
        Due.put(x, 4, 5, 6);
        due.is("deleteKey(-1)", x.deleteKey(-1, 5), JournaledTables.NOTABLE);
        due.is("deleteKey(5)", x.deleteKey(5, 5), JournaledTables.NOTABLE);
        due.is("the key below", x.deleteKey(0, 4), JournaledTables.NOKEY);
        due.is("the key above", x.deleteKey(0, 6), JournaledTables.NOKEY);
        due.is("the key of another table", x.deleteKey(1, 5), JournaledTables.NOKEY);
        due.is("the key 0 of a slot without a row", x.deleteKey(0, 0), JournaledTables.NOKEY);
        x.commit();
        due.is("outside a transaction", x.deleteKey(0, 5), JournaledTables.NOTXN);
        x.begin();
        due.is("table 0", x.deleteKey(0, 5), 0);
        due.is("table 4", x.deleteKey(4, 5), 0);
        x.crashAfter(0);
        x.commit();
        due.is("without power", x.deleteKey(0, 5), JournaledTables.DOWN);
        x.recover();
        due.is("the row is there", x.has(0, 5) && x.has(4, 5), true);
    }

    private static void updateCols() {
        due.sentence("Word col (1 or more) of a row becomes this. "
                + "DOWN; NOTXN; NOTABLE; BADARG when col is not 1 .. width - 1; NOKEY.");
        for (int width = 2; width <= 6; width++) {
            JournaledTables x = Due.open(width);
            Due.put(x, 0, 1, 2, 3, 4, 5, 6);
            Due.put(x, 0, 9, 2, 3, 4, 5, 6);
            due.is("col -1", x.updateCol(0, 1, -1, 70), JournaledTables.BADARG);
            due.is("col 0", x.updateCol(0, 1, 0, 71), JournaledTables.BADARG);
            due.is("col 1", x.updateCol(0, 1, 1, 72), 0);
            due.is("word 1", x.lookup(0, 1, 1), 72);
            due.is("col width - 1", x.updateCol(0, 1, width - 1, 73), 0);
            due.is("word width - 1", x.lookup(0, 1, width - 1), 73);
            due.is("col width", x.updateCol(0, 1, width, 74), JournaledTables.BADARG);
            due.is("the key", x.has(0, 1), true);
            due.is("the row behind it", x.lookup(0, 9, 0), 9);
            due.is("its word 1", x.lookup(0, 9, 1), 2);
        }
    }

    private static void updateKeys() {
        due.sentence("BADARG when col is not 1 .. width - 1; NOKEY.");
        JournaledTables x = Due.open(2, 2, 2, 2, 2);
        due.is("a table without a row", x.updateCol(0, 0, 1, 7), JournaledTables.NOKEY);
        for (int key : KEYS) {
            due.is("before it is there", x.updateCol(4, key, 1, 7), JournaledTables.NOKEY);
            Due.put(x, 4, key, 5);
            due.is("updateCol", x.updateCol(4, key, 1, key ^ 3), 0);
            due.is("lookup", x.lookup(4, key, 1), key ^ 3);
        }
        due.is("a key between", x.updateCol(4, 2, 1, 7), JournaledTables.NOKEY);
        due.is("table -1", x.updateCol(-1, 0, 1, 7), JournaledTables.NOTABLE);
        due.is("table 5", x.updateCol(5, 0, 1, 7), JournaledTables.NOTABLE);
        x.commit();
        due.is("outside a transaction", x.updateCol(4, 0, 1, 7), JournaledTables.NOTXN);
        Due.cutPower(x);
        due.is("without power", x.updateCol(4, 0, 1, 7), JournaledTables.DOWN);
        x.recover();
        due.is("the word stays", x.lookup(4, 0, 1), 3);
    }

    private static void lookupCols() {
        due.sentence("Word col of the row with a key; 0 when there is none such.");
        for (int width = 2; width <= 6; width++) {
            JournaledTables x = Due.open(width);
            Due.put(x, 0, 1, 2, 3, 4, 5, 6);
            Due.put(x, 0, 7, 8, 9, 10, 11, 12);
            due.is("col -1", x.lookup(0, 7, -1), 0);
            due.is("col 0", x.lookup(0, 7, 0), 7);
            due.is("col width - 1", x.lookup(0, 1, width - 1), width);
            due.is("col width", x.lookup(0, 1, width), 0);
            due.is("the least col", x.lookup(0, 1, Integer.MIN_VALUE), 0);
            due.is("the most col", x.lookup(0, 1, Integer.MAX_VALUE), 0);
        }
    }

    private static void lookupKeys() {
        due.sentence("Word col of the row with a key; 0 when there is none such.");
        JournaledTables x = Due.open(2, 2, 2, 2, 2);
        due.is("a table without a row", x.lookup(4, 0, 1), 0);
        for (int key : KEYS) {
            due.is("before it is there", x.lookup(4, key, 1), 0);
            Due.put(x, 4, key, 8);
            due.is("lookup", x.lookup(4, key, 1), 8);
        }
        due.is("a key between", x.lookup(4, 2, 1), 0);
        due.is("table 0 has it not", x.lookup(0, 1, 1), 0);
        due.is("table -1", x.lookup(-1, 1, 1), 0);
        due.is("table 5", x.lookup(5, 1, 1), 0);
        x.commit();
        due.is("outside a transaction", x.lookup(4, 1, 1), 8);
        Due.cutPower(x);
        due.is("without power", x.lookup(4, 1, 1), 0);
        x.recover();
        due.is("with power again", x.lookup(4, 1, 1), 8);
    }

    private static void hasKeys() {
        due.sentence("Whether a table has a row with a key.");
        JournaledTables x = Due.open(3);
        for (int key : KEYS) {
            due.is("before", x.has(0, key), false);
            Due.put(x, 0, key, 2, 3);
            due.is("behind insert", x.has(0, key), true);
        }
        due.is("another word is no key", x.has(0, 2), false);
        for (int key : KEYS) {
            x.deleteKey(0, key);
            due.is("behind deleteKey", x.has(0, key), false);
        }
    }

    private static void hasTables() {
        due.sentence("Whether a table has a row with a key.");
        JournaledTables x = Due.open(2, 2, 2, 2, 2);
        x.insert(0);
        x.insert(4);
        due.is("has(-1, 0)", x.has(-1, 0), false);
        due.is("has(0, 0)", x.has(0, 0), true);
        due.is("has(1, 0)", x.has(1, 0), false);
        due.is("has(4, 0)", x.has(4, 0), true);
        due.is("has(5, 0)", x.has(5, 0), false);
        due.is("the least table", x.has(Integer.MIN_VALUE, 0), false);
        due.is("the most table", x.has(Integer.MAX_VALUE, 0), false);
        x.commit();
        Due.cutPower(x);
        due.is("without power", x.has(0, 0), false);
        x.recover();
        due.is("with power again", x.has(0, 0), true);
    }

    private static void counts() {
        due.sentence("How many rows a table has.");
        JournaledTables x = Due.open(2, 6);
        due.is("none", x.count(0), 0);
        Due.put(x, 0, 1);
        due.is("one", x.count(0), 1);
        due.is("none of the other", x.count(1), 0);
        x.deleteKey(0, 1);
        due.is("none again", x.count(0), 0);
        JournaledTables y = Due.full(2);
        due.is("ninety", y.count(0), 90);
        due.is("one more", Due.put(y, 0, -1), JournaledTables.NOROOM);
        due.is("still ninety", y.count(0), 90);
        y.deleteKey(0, 89);
        due.is("one less", y.count(0), 89);
    }

    private static void countTables() {
        due.sentence("DOWN; NOTABLE.");
        JournaledTables x = Due.open(2, 2, 2, 2);
        due.is("count(-1)", x.count(-1), JournaledTables.NOTABLE);
        due.is("count(0)", x.count(0), 0);
        due.is("count(3)", x.count(3), 0);
        due.is("count(4) without it", x.count(4), JournaledTables.NOTABLE);
        x.createTable(2);
        due.is("count(4)", x.count(4), 0);
        due.is("count(5)", x.count(5), JournaledTables.NOTABLE);
        due.is("the least", x.count(Integer.MIN_VALUE), JournaledTables.NOTABLE);
        due.is("the most", x.count(Integer.MAX_VALUE), JournaledTables.NOTABLE);
        x.dropTable(4);
        due.is("count(4) behind its drop", x.count(4), JournaledTables.NOTABLE);
        x.commit();
        Due.cutPower(x);
        due.is("without power", x.count(0), JournaledTables.DOWN);
        due.is("count(-1) without power", x.count(-1), JournaledTables.DOWN);
    }
}
