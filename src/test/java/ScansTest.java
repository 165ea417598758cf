/** Promises 15 (openScan), 16 (next), 17 (col) and 18 (closeScan). */
public final class ScansTest {
    private static final Due due = new Due();

    public static void main(String[] args) {
        goesInTheOrderOfKeys();
        matchesByWord();
        colAtARow();
        numbers();
        openRefuses();
        noSuchScan();
        voidByAChange();
        notVoidByOthers();
        voidByADrop();
        voidByARollback();
        goneByRecovering();
        withoutPower();
        due.end();
    }

    private static JournaledTables threeRows() {
        JournaledTables x = Due.open(3, 2);
        Due.put(x, 0, 5, 50, -1);
        Due.put(x, 0, 3, 30, -2);
        Due.put(x, 0, 4, 50, -3);
        Due.put(x, 1, 1, 1);
        return x;
    }

    private static void goesInTheOrderOfKeys() {
        JournaledTables x = Due.open(6);
        int[] keys = {7, Integer.MAX_VALUE, -3, 0, Integer.MIN_VALUE, 2, -1};
        for (int key : keys) {
            Due.put(x, 0, key, 0, 0, 0, 0, 0);
        }
        due.rows("all", x, 0, 0, Integer.MIN_VALUE, -3, -1, 0, 2, 7, Integer.MAX_VALUE);
        x.deleteKey(0, 0);
        due.rows("all but one", x, 0, 0, Integer.MIN_VALUE, -3, -1, 2, 7, Integer.MAX_VALUE);
    }

    private static void scan(JournaledTables x, int col, int lo, int hi, int... keys) {
        int c = x.openScan(0, col, lo, hi);
        String call = "openScan(0, " + col + ", " + lo + ", " + hi + ")";
        for (int key : keys) {
            due.is(call + ": next", x.next(c), true);
            due.is(call + ": key", x.col(c, 0), key);
        }
        due.is(call + ": the end", x.next(c), false);
        due.is(call + ": at no row", x.col(c, 0), 0);
        due.is(call + ": the end again", x.next(c), false);
        due.is(call + ": closeScan", x.closeScan(c), 0);
    }

    private static void matchesByWord() {
        JournaledTables x = threeRows();
        scan(x, 0, 3, 5, 3, 4, 5);
        scan(x, 0, 4, 4, 4);
        scan(x, 0, 5, 4);
        scan(x, 0, 6, Integer.MAX_VALUE);
        scan(x, 0, Integer.MIN_VALUE, 2);
        scan(x, 1, 50, 50, 4, 5);
        scan(x, 1, 31, 49);
        scan(x, 1, 30, 49, 3);
        scan(x, 2, -2, -1, 3, 5);
        scan(x, 2, -3, -3, 4);
        scan(x, 2, 0, 0);
        x.commit();
        scan(x, 2, Integer.MIN_VALUE, -2, 3, 4);
    }

    private static void colAtARow() {
        JournaledTables x = threeRows();
        due.is("openScan", x.openScan(0, 1, 50, 50), 0);
        due.is("col before the first move", x.col(0, 1), 0);
        due.is("next", x.next(0), true);
        due.is("col(0, 0)", x.col(0, 0), 4);
        due.is("col(0, 1)", x.col(0, 1), 50);
        due.is("col(0, 2)", x.col(0, 2), -3);
        for (int i : new int[] {Integer.MIN_VALUE, -1, 3, 6, Integer.MAX_VALUE}) {
            due.is("col(0, " + i + ")", x.col(0, i), 0);
        }
        due.is("col again", x.col(0, 0), 4);
        due.is("next", x.next(0), true);
        due.is("col of the next row", x.col(0, 2), -1);
    }

    private static void numbers() {
        JournaledTables x = threeRows();
        for (int c = 0; c < 4; c++) {
            due.is("openScan", x.openScan(0, 0, c, 9), c);
        }
        due.is("a fifth", x.openScan(0, 0, 0, 0), JournaledTables.NOROOM);
        due.is("next(3)", x.next(3), true);
        due.is("next(3)", x.next(3), true);
        due.is("col(3, 0)", x.col(3, 0), 4);
        due.is("each goes by itself", x.col(2, 0), 0);
        due.is("closeScan(3)", x.closeScan(3), 0);
        due.is("closeScan(1)", x.closeScan(1), 0);
        due.is("next of a closed one", x.next(1), false);
        due.is("col of a closed one", x.col(3, 0), 0);
        due.is("the least free", x.openScan(1, 0, 0, 9), 1);
        due.is("it starts anew", x.col(1, 0), 0);
        due.is("with rows of its table", x.next(1), true);
        due.is("col(1, 0)", x.col(1, 0), 1);
        due.is("the other free", x.openScan(0, 0, 0, 9), 3);
        due.is("no row yet", x.col(3, 0), 0);
        due.is("the first row again", x.next(3), true);
        due.is("col(3, 0)", x.col(3, 0), 3);
    }

    private static void openRefuses() {
        JournaledTables x = threeRows();
        for (int t : new int[] {Integer.MIN_VALUE, -1, 2, 5, 8, Integer.MAX_VALUE}) {
            due.is("NOTABLE goes before BADARG", x.openScan(t, 9, 0, 0), JournaledTables.NOTABLE);
        }
        for (int col : new int[] {Integer.MIN_VALUE, -1, 3, 6, Integer.MAX_VALUE}) {
            due.is("openScan(0, " + col + ")", x.openScan(0, col, 0, 0), JournaledTables.BADARG);
        }
        due.is("each table has its width", x.openScan(1, 2, 0, 0), JournaledTables.BADARG);
        due.is("a refused one takes no number", x.openScan(0, 2, 0, 0), 0);
        for (int c = 1; c < 4; c++) {
            x.openScan(0, 0, 0, 0);
        }
        due.is("BADARG goes before NOROOM", x.openScan(0, 3, 0, 0), JournaledTables.BADARG);
        due.is("NOTABLE goes before NOROOM", x.openScan(2, 0, 0, 0), JournaledTables.NOTABLE);
    }

    private static void noSuchScan() {
        JournaledTables x = threeRows();
        for (int c : new int[] {Integer.MIN_VALUE, -1, 0, 3, 4, Integer.MAX_VALUE}) {
            due.is("next(" + c + ")", x.next(c), false);
            due.is("col(" + c + ", 0)", x.col(c, 0), 0);
            due.is("closeScan(" + c + ")", x.closeScan(c), JournaledTables.BADCUR);
        }
    }

    /** Opens scan 0 over table 0, moves it to its first row, and has a look whether it is void. */
    private static void moveToFirst(JournaledTables x) {
        due.is("openScan", x.openScan(0, 0, 0, 9), 0);
        due.is("next", x.next(0), true);
        due.is("col", x.col(0, 0), 3);
    }

    private static void isVoid(String by, JournaledTables x) {
        due.is(by + ": col", x.col(0, 0), 0);
        due.is(by + ": next", x.next(0), false);
        due.is(by + ": it keeps its number", x.openScan(0, 0, 0, 9), 1);
        due.is(by + ": a new one is not void", x.next(1), true);
        due.is(by + ": closeScan of the new one", x.closeScan(1), 0);
        due.is(by + ": closeScan", x.closeScan(0), 0);
        due.is(by + ": closeScan again", x.closeScan(0), JournaledTables.BADCUR);
    }

    private static void voidByAChange() {
        JournaledTables x = threeRows();
        moveToFirst(x);
        due.is("insert", Due.put(x, 0, 9, 9, 9), 0);
        isVoid("by insert", x);
        moveToFirst(x);
        due.is("deleteKey", x.deleteKey(0, 9), 0);
        isVoid("by deleteKey", x);
        moveToFirst(x);
        due.is("updateCol", x.updateCol(0, 5, 1, 7), 0);
        isVoid("by updateCol", x);
        moveToFirst(x);
        due.is("updateCol", x.updateCol(0, 5, 1, 7), 0);
        isVoid("by updateCol to the word that it has", x);
    }

    private static void notVoidByOthers() {
        JournaledTables x = threeRows();
        moveToFirst(x);
        due.is("refused insert", Due.put(x, 0, 5, 0, 0), JournaledTables.DUPKEY);
        due.is("refused deleteKey", x.deleteKey(0, 6), JournaledTables.NOKEY);
        due.is("refused updateCol", x.updateCol(0, 6, 1, 0), JournaledTables.NOKEY);
        due.is("refused updateCol", x.updateCol(0, 5, 0, 0), JournaledTables.BADARG);
        due.is("change of another table", Due.put(x, 1, 5, 0), 0);
        due.is("change of another table", x.deleteKey(1, 5), 0);
        due.is("change of another table", x.updateCol(1, 1, 1, 0), 0);
        due.is("another table made", x.createTable(2), 2);
        due.is("another table dropped", x.dropTable(1), 0);
        due.is("stage", x.stage(0, 3), 0);
        due.is("col", x.col(0, 0), 3);
        due.is("commit", x.commit(), 0);
        due.is("refused rollback", x.rollback(), JournaledTables.NOTXN);
        due.is("refused insert", Due.put(x, 0, 6, 0, 0), JournaledTables.NOTXN);
        due.is("begin", x.begin(), 0);
        due.is("col", x.col(0, 0), 3);
        due.is("next", x.next(0), true);
        due.is("col", x.col(0, 0), 4);
    }

    private static void voidByADrop() {
        JournaledTables x = threeRows();
        moveToFirst(x);
        x.dropTable(0);
        due.is("col", x.col(0, 0), 0);
        due.is("next", x.next(0), false);
        x.createTable(3);
        due.is("a third table", x.createTable(2), 2);
        Due.put(x, 2, 8, 8);
        Due.put(x, 2, 9, 9);
        due.is("the page is another table's now: col", x.col(0, 0), 0);
        due.is("the page is another table's now: next", x.next(0), false);
        Due.put(x, 0, 4, 4, 4);
        isVoid("by a drop, a new table in place of the old", x);
    }

    private static void voidByARollback() {
        JournaledTables x = threeRows();
        x.commit();
        moveToFirst(x);
        x.openScan(1, 0, 0, 9);
        x.next(1);
        x.begin();
        due.is("rollback", x.rollback(), 0);
        due.is("also of a table without a change: col", x.col(1, 0), 0);
        due.is("also of a table without a change: next", x.next(1), false);
        due.is("closeScan", x.closeScan(1), 0);
        isVoid("by rollback", x);
    }

    private static void goneByRecovering() {
        JournaledTables x = threeRows();
        x.commit();
        moveToFirst(x);
        due.is("recover with the power on", x.recover(), 0);
        due.is("next", x.next(0), false);
        due.is("closeScan", x.closeScan(0), JournaledTables.BADCUR);
    }

    private static void withoutPower() {
        JournaledTables x = threeRows();
        x.commit();
        moveToFirst(x);
        Due.cutPower(x);
        due.is("next", x.next(0), false);
        due.is("col", x.col(0, 0), 0);
        due.is("openScan", x.openScan(0, 0, 0, 9), JournaledTables.DOWN);
        due.is("openScan of no table", x.openScan(9, 0, 0, 9), JournaledTables.DOWN);
        due.is("closeScan", x.closeScan(0), JournaledTables.DOWN);
        due.is("closeScan of none", x.closeScan(4), JournaledTables.DOWN);
        due.is("recover", x.recover(), 0);
        due.is("no scan is left", x.closeScan(0), JournaledTables.BADCUR);
        moveToFirst(x);
    }
}
