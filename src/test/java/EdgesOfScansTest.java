/** The boundaries in the sentences about scans: those of "Terms", and promises 15 to 18. */
public final class EdgesOfScansTest {
    private static final Due due = new Due();
    private static final int LEAST = Integer.MIN_VALUE;
    private static final int MOST = Integer.MAX_VALUE;

    public static void main(String[] args) {
        numbersOfScans();
        orderOfKeys();
        rowsWhenOpened();
        voidFromTheNextChange();
        voidByTheSameWord();
        voidByADrop();
        voidByARollback();
        notVoidBefore();
        openFromLoToHi();
        openAtTheEndsOfInt();
        openLeastFree();
        openTables();
        openCols();
        openWithoutRoom();
        nextOfNoRow();
        nextOfAllRows();
        nextOfNoScan();
        colOfEachWidth();
        colAtNoRow();
        colOfNoScan();
        closeNumbers();
        closeWithoutPower();
        due.end();
    }

    /** Table 0 has the keys 1, 2, 3 with the words 10, 20, 30; table 1 the key 1. */
    private static JournaledTables threeRows() {
        JournaledTables x = Due.open(2, 2);
        Due.put(x, 1, 1, 10);
        Due.put(x, 0, 3, 30);
        Due.put(x, 0, 1, 10);
        Due.put(x, 0, 2, 20);
        return x;
    }

    private static void numbersOfScans() {
        due.sentence("SCANS have numbers 0 .. 3.");
        JournaledTables x = threeRows();
        for (int c = 0; c < 4; c++) {
            due.is("next before it is open", x.next(c), false);
            due.is("openScan", x.openScan(0, 0, c, MOST), c);
        }
        due.is("a fifth", x.openScan(0, 0, 0, 9), JournaledTables.NOROOM);
        due.is("next(-1)", x.next(-1), false);
        due.is("next(0)", x.next(0), true);
        due.is("next(3)", x.next(3), true);
        due.is("next(4)", x.next(4), false);
        due.is("col(0, 0)", x.col(0, 0), 1);
        due.is("col(3, 0)", x.col(3, 0), 3);
        due.is("col(-1, 0)", x.col(-1, 0), 0);
        due.is("col(4, 0)", x.col(4, 0), 0);
        due.is("closeScan(4)", x.closeScan(4), JournaledTables.BADCUR);
        due.is("closeScan(3)", x.closeScan(3), 0);
    }

    private static void orderOfKeys() {
        due.sentence("One goes over the rows of a table that match when it is opened, in the order of their keys.");
        JournaledTables x = Due.open(6);
        due.rows("no row", x, 0, 0);
        int[] keys = {MOST, 0, LEAST, 1, MOST - 1, -1, LEAST + 1};
        for (int key : keys) {
            Due.put(x, 0, key);
        }
        due.rows("seven rows", x, 0, 0, LEAST, LEAST + 1, -1, 0, 1, MOST - 1, MOST);
        x.deleteKey(0, LEAST);
        x.deleteKey(0, MOST);
        due.rows("five rows", x, 0, 0, LEAST + 1, -1, 0, 1, MOST - 1);
        Due.put(x, 0, LEAST);
        due.rows("six rows", x, 0, 0, LEAST, LEAST + 1, -1, 0, 1, MOST - 1);
    }

    private static void rowsWhenOpened() {
        due.sentence("the rows of a table that match when it is opened");
        JournaledTables x = threeRows();
        due.is("openScan", x.openScan(0, 1, 20, 20), 0);
        due.is("next", x.next(0), true);
        due.is("key", x.col(0, 0), 2);
        due.is("next", x.next(0), false);
        x.updateCol(0, 2, 1, 21);
        due.is("openScan behind the change", x.openScan(0, 1, 20, 20), 1);
        due.is("no row matches any more", x.next(1), false);
        x.updateCol(0, 2, 1, 20);
        due.is("one matches again, but not for that scan", x.next(1), false);
        due.is("openScan behind that", x.openScan(0, 1, 20, 20), 2);
        due.is("next", x.next(2), true);
    }

    /** Opens a scan of table 0 and moves it to its first row. */
    private static int openAtOne(JournaledTables x) {
        int c = x.openScan(0, 0, LEAST, MOST);
        due.is("next before the change", x.next(c), true);
        due.is("col before the change", x.col(c, 0), 1);
        return c;
    }

    private static void isVoid(String by, JournaledTables x, int c) {
        due.is(by + ": col", x.col(c, 0), 0);
        due.is(by + ": next", x.next(c), false);
        due.is(by + ": next again", x.next(c), false);
        due.is(by + ": closeScan", x.closeScan(c), 0);
    }

    private static void voidFromTheNextChange() {
        due.sentence("It is VOID from the next change of its table on (a row put in, taken out or changed");
        JournaledTables x = threeRows();
        int at = openAtOne(x);
        int unmoved = x.openScan(0, 0, LEAST, MOST);
        int behind = x.openScan(0, 0, 9, 9);
        int other = x.openScan(1, 0, LEAST, MOST);
        due.is("next behind its last row", x.next(behind), false);
        due.is("insert", Due.put(x, 0, 9, 9), 0);
        isVoid("at a row", x, at);
        isVoid("unmoved", x, unmoved);
        isVoid("behind its last row", x, behind);
        due.is("of another table", x.next(other), true);
        due.is("deleteKey of that", x.deleteKey(1, 1), 0);
        isVoid("now it is void", x, other);
        int c = openAtOne(x);
        due.is("deleteKey", x.deleteKey(0, 9), 0);
        isVoid("a row taken out", x, c);
        c = openAtOne(x);
        due.is("updateCol", x.updateCol(0, 3, 1, 31), 0);
        isVoid("a row changed", x, c);
        c = openAtOne(x);
        isVoidNot("opened behind the last change", x, c);
    }

    private static void isVoidNot(String by, JournaledTables x, int c) {
        due.is(by + ": col", x.col(c, 0), 1);
        due.is(by + ": next", x.next(c), true);
        due.is(by + ": the next row", x.col(c, 0), 2);
        due.is(by + ": closeScan", x.closeScan(c), 0);
    }

    private static void voidByTheSameWord() {
        due.sentence("a row put in, taken out or changed, also to the word that it has");
        JournaledTables x = threeRows();
        int c = openAtOne(x);
        due.is("updateCol to the word that it has", x.updateCol(0, 3, 1, 30), 0);
        isVoid("changed to the same", x, c);
        c = openAtOne(x);
        due.is("updateCol of no row", x.updateCol(0, 4, 1, 30), JournaledTables.NOKEY);
        isVoidNot("not changed", x, c);
    }

    private static void voidByADrop() {
        due.sentence("the table dropped");
        JournaledTables x = threeRows();
        int c = openAtOne(x);
        due.is("createTable", x.createTable(2), 2);
        due.is("dropTable of another", x.dropTable(2), 0);
        due.is("col", x.col(c, 0), 1);
        due.is("dropTable", x.dropTable(0), 0);
        due.is("createTable", x.createTable(2), 0);
        for (int key = 2; key <= 9; key++) {
            due.is("insert into the other table, that takes the page", Due.put(x, 1, key, 10), 0);
        }
        due.is("what stands where its row was is no row of it", x.col(c, 0), 0);
        due.is("insert of the same row", Due.put(x, 0, 1, 10), 0);
        isVoid("the table dropped", x, c);
        isVoidNotOfOneRow(x, openAtOne(x));
    }

    private static void isVoidNotOfOneRow(JournaledTables x, int c) {
        due.is("the new table's scan: word 1", x.col(c, 1), 10);
        due.is("the new table's scan: next", x.next(c), false);
        due.is("the new table's scan: closeScan", x.closeScan(c), 0);
    }

    private static void voidByARollback() {
        due.sentence("and from the next rollback on.");
        JournaledTables x = threeRows();
        x.commit();
        int before = openAtOne(x);
        x.begin();
        int inside = openAtOne(x);
        int other = x.openScan(1, 0, LEAST, MOST);
        due.is("rollback", x.rollback(), 0);
        isVoid("opened before begin", x, before);
        isVoid("opened behind begin", x, inside);
        isVoid("of another table", x, other);
        int behind = openAtOne(x);
        due.is("a refused rollback", x.rollback(), JournaledTables.NOTXN);
        isVoidNot("opened behind it", x, behind);
    }

    private static void notVoidBefore() {
        due.sentence("It is VOID from the next change of its table on");
        JournaledTables x = threeRows();
        int c = openAtOne(x);
        due.is("insert of a key that is there", Due.put(x, 0, 1, 0), JournaledTables.DUPKEY);
        due.is("deleteKey of none", x.deleteKey(0, 9), JournaledTables.NOKEY);
        due.is("updateCol of the key", x.updateCol(0, 1, 0, 5), JournaledTables.BADARG);
        due.is("begin in a transaction", x.begin(), JournaledTables.NESTED);
        due.is("createTable", x.createTable(2), 2);
        due.is("commit", x.commit(), 0);
        due.is("dropTable outside a transaction", x.dropTable(0), JournaledTables.NOTXN);
        due.is("insert outside a transaction", Due.put(x, 0, 9, 0), JournaledTables.NOTXN);
        due.is("begin", x.begin(), 0);
        isVoidNot("nothing changed its table", x, c);
    }

    private static void matches(JournaledTables x, int lo, int hi, int... keys) {
        String call = "openScan(0, 1, " + lo + ", " + hi + ")";
        int c = x.openScan(0, 1, lo, hi);
        due.is(call, c, 0);
        for (int key : keys) {
            due.is(call + ": next", x.next(c), true);
            due.is(call + ": key", x.col(c, 0), key);
        }
        due.is(call + ": behind the last row", x.next(c), false);
        x.closeScan(c);
    }

    private static void openFromLoToHi() {
        due.sentence("Opens a scan of the rows whose word col is lo .. hi");
        JournaledTables x = threeRows();
        matches(x, 10, 30, 1, 2, 3);
        matches(x, 11, 30, 2, 3);
        matches(x, 10, 29, 1, 2);
        matches(x, 9, 31, 1, 2, 3);
        matches(x, 20, 20, 2);
        matches(x, 21, 29);
        matches(x, 21, 20);
        matches(x, 30, 10);
        matches(x, LEAST, 9);
        matches(x, LEAST, 10, 1);
        matches(x, 31, MOST);
        matches(x, 30, MOST, 3);
    }

    private static void openAtTheEndsOfInt() {
        due.sentence("the rows whose word col is lo .. hi");
        JournaledTables x = Due.open(2);
        Due.put(x, 0, 1, LEAST);
        Due.put(x, 0, 2, MOST);
        Due.put(x, 0, 3, -1);
        Due.put(x, 0, 4, 0);
        matches(x, LEAST, MOST, 1, 2, 3, 4);
        matches(x, LEAST, LEAST, 1);
        matches(x, LEAST + 1, MOST, 2, 3, 4);
        matches(x, MOST, MOST, 2);
        matches(x, LEAST, MOST - 1, 1, 3, 4);
        matches(x, MOST, LEAST);
        matches(x, -1, 0, 3, 4);
        matches(x, 0, -1);
    }

    private static void openLeastFree() {
        due.sentence("answers its number, the least that is free.");
        for (int gone = 0; gone < 4; gone++) {
            JournaledTables x = threeRows();
            for (int c = 0; c < 4; c++) {
                x.openScan(0, 0, 0, 9);
            }
            x.closeScan(gone);
            due.is("the only free one", x.openScan(0, 0, 0, 9), gone);
            due.is("then none", x.openScan(0, 0, 0, 9), JournaledTables.NOROOM);
            x.closeScan(3);
            x.closeScan(gone);
            due.is("the lesser of two", x.openScan(0, 0, 0, 9), gone);
        }
    }

    private static void openTables() {
        due.sentence("DOWN; NOTABLE; BADARG when col is not 0 .. width - 1; NOROOM when there are 4.");
        JournaledTables x = Due.open(2, 2, 2, 2);
        due.is("table -1", x.openScan(-1, 0, 0, 0), JournaledTables.NOTABLE);
        due.is("table 0", x.openScan(0, 0, 0, 0), 0);
        due.is("table 3", x.openScan(3, 0, 0, 0), 1);
        due.is("table 4 without it", x.openScan(4, 0, 0, 0), JournaledTables.NOTABLE);
        x.createTable(2);
        due.is("table 4", x.openScan(4, 0, 0, 0), 2);
        due.is("table 5", x.openScan(5, 0, 0, 0), JournaledTables.NOTABLE);
        due.is("the least", x.openScan(LEAST, 0, 0, 0), JournaledTables.NOTABLE);
        due.is("the most", x.openScan(MOST, 0, 0, 0), JournaledTables.NOTABLE);
        x.dropTable(4);
        due.is("table 4 behind its drop", x.openScan(4, 0, 0, 0), JournaledTables.NOTABLE);
        x.commit();
        Due.cutPower(x);
        due.is("without power", x.openScan(0, 0, 0, 0), JournaledTables.DOWN);
    }

    private static void openCols() {
        due.sentence("BADARG when col is not 0 .. width - 1");
        for (int width = 2; width <= 6; width++) {
            JournaledTables x = Due.open(width);
            due.is("col -1", x.openScan(0, -1, 0, 0), JournaledTables.BADARG);
            due.is("col 0", x.openScan(0, 0, 0, 0), 0);
            due.is("col width - 1", x.openScan(0, width - 1, 0, 0), 1);
            due.is("col width", x.openScan(0, width, 0, 0), JournaledTables.BADARG);
            due.is("the least col", x.openScan(0, LEAST, 0, 0), JournaledTables.BADARG);
            due.is("the most col", x.openScan(0, MOST, 0, 0), JournaledTables.BADARG);
            due.is("none of these has a number", x.openScan(0, 0, 0, 0), 2);
        }
    }

    private static void openWithoutRoom() {
        due.sentence("NOROOM when there are 4.");
        JournaledTables x = threeRows();
        for (int c = 0; c < 3; c++) {
            x.openScan(0, 0, 0, 9);
        }
        due.is("the fourth", x.openScan(1, 0, 0, 9), 3);
        due.is("a fifth", x.openScan(1, 0, 0, 9), JournaledTables.NOROOM);
        due.is("the fourth stays", x.next(3), true);
        Due.put(x, 0, 9, 9);
        due.is("void ones are there until they are closed", x.openScan(0, 0, 0, 9), JournaledTables.NOROOM);
        due.is("closeScan of a void one", x.closeScan(2), 0);
        due.is("one more", x.openScan(0, 0, 0, 9), 2);
        due.is("again a fifth", x.openScan(0, 0, 0, 9), JournaledTables.NOROOM);
        x.recover();
        due.is("there are none", x.next(3), false);
    }

    private static void nextOfNoRow() {
        due.sentence("Moves a scan to its next row (at first its first one); false when there is none");
        JournaledTables x = Due.open(2);
        x.openScan(0, 0, LEAST, MOST);
        due.is("a table without a row", x.next(0), false);
        due.is("again", x.next(0), false);
        due.is("insert", Due.put(x, 0, LEAST, 0), 0);
        x.openScan(0, 0, LEAST, MOST);
        due.is("the first is the last", x.next(1), true);
        due.is("its key", x.col(1, 0), LEAST);
        due.is("behind it", x.next(1), false);
        due.is("it does not start again", x.next(1), false);
        due.is("insert", Due.put(x, 0, MOST, 0), 0);
        x.openScan(0, 0, MOST, MOST);
        due.is("the first is the last", x.next(2), true);
        due.is("its key", x.col(2, 0), MOST);
        due.is("behind it", x.next(2), false);
        due.is("it does not start again", x.next(2), false);
    }

    private static void nextOfAllRows() {
        due.sentence("Moves a scan to its next row (at first its first one); false when there is none");
        JournaledTables x = Due.full(2);
        x.openScan(0, 0, LEAST, MOST);
        for (int key = 0; key < 90; key++) {
            due.is("next", x.next(0), true);
            due.is("key", x.col(0, 0), key);
        }
        due.is("behind the ninetieth", x.next(0), false);
        due.is("at no row", x.col(0, 0), 0);
    }

    private static void nextOfNoScan() {
        due.sentence("false when there is none, when it is void, or there is no such scan.");
        JournaledTables x = threeRows();
        due.is("before it is open", x.next(0), false);
        x.openScan(0, 0, 0, 9);
        due.is("next(0)", x.next(0), true);
        due.is("next(1)", x.next(1), false);
        due.is("next(-1)", x.next(-1), false);
        due.is("next(4)", x.next(4), false);
        due.is("next of the least", x.next(LEAST), false);
        due.is("next of the most", x.next(MOST), false);
        x.closeScan(0);
        due.is("closed", x.next(0), false);
        x.openScan(0, 0, 0, 9);
        Due.put(x, 0, 9, 9);
        due.is("void", x.next(0), false);
    }

    private static void colOfEachWidth() {
        due.sentence("or there is no such word or scan.");
        for (int width = 2; width <= 6; width++) {
            JournaledTables x = Due.open(width);
            Due.put(x, 0, 1, 2, 3, 4, 5, 6);
            Due.put(x, 0, 7, 8, 9, 10, 11, 12);
            x.openScan(0, 0, LEAST, MOST);
            x.next(0);
            due.is("col(0, -1)", x.col(0, -1), 0);
            due.is("col(0, 0)", x.col(0, 0), 1);
            due.is("col(0, width - 1)", x.col(0, width - 1), width);
            due.is("col(0, width)", x.col(0, width), 0);
            due.is("col of the least", x.col(0, LEAST), 0);
            due.is("col of the most", x.col(0, MOST), 0);
            x.next(0);
            due.is("col(0, 0) of the next", x.col(0, 0), 7);
            due.is("col(0, -1) of the next", x.col(0, -1), 0);
            due.is("col(0, width - 1) of the next", x.col(0, width - 1), 6 + width);
            due.is("col(0, width) of the next", x.col(0, width), 0);
        }
    }

    private static void colAtNoRow() {
        due.sentence("0 when it is at none (no move was yet, or the last one answered false), is void");
        JournaledTables x = threeRows();
        x.openScan(0, 0, 3, 9);
        due.is("no move was yet", x.col(0, 0), 0);
        x.next(0);
        due.is("at its only row", x.col(0, 0), 3);
        x.next(0);
        due.is("the last move answered false", x.col(0, 0), 0);
        x.next(0);
        due.is("so did one more", x.col(0, 1), 0);
        x.closeScan(0);
        x.openScan(0, 0, 1, 2);
        x.next(0);
        due.is("at the first of two", x.col(0, 0), 1);
        x.closeScan(0);
        x.openScan(0, 0, 3, 9);
        due.is("the number used again, no move was yet", x.col(0, 0), 0);
        x.next(0);
        due.is("at its only row", x.col(0, 1), 30);
        x.updateCol(0, 3, 1, 30);
        due.is("void", x.col(0, 1), 0);
    }

    private static void colOfNoScan() {
        due.sentence("Word i of the row at which a scan is; 0 when it is at none (no move was yet, or the last one "
                + "answered false), is void, or there is no such word or scan.");
        JournaledTables x = threeRows();
        due.is("before it is open", x.col(0, 0), 0);
        for (int c = 0; c < 4; c++) {
            x.openScan(0, 0, 0, 9);
            x.next(c);
        }
        due.is("col(-1, 0)", x.col(-1, 0), 0);
        due.is("col(0, 0)", x.col(0, 0), 1);
        due.is("col(3, 0)", x.col(3, 0), 1);
        due.is("col(4, 0)", x.col(4, 0), 0);
        due.is("col of the least", x.col(LEAST, 0), 0);
        due.is("col of the most", x.col(MOST, 0), 0);
        x.closeScan(3);
        due.is("closed", x.col(3, 0), 0);
    }

    private static void closeNumbers() {
        due.sentence("A scan goes. DOWN; BADCUR.");
        JournaledTables x = threeRows();
        for (int c = 0; c < 4; c++) {
            due.is("before it is open", x.closeScan(c), JournaledTables.BADCUR);
            x.openScan(0, 0, 0, 9);
        }
        due.is("closeScan(-1)", x.closeScan(-1), JournaledTables.BADCUR);
        due.is("closeScan(4)", x.closeScan(4), JournaledTables.BADCUR);
        due.is("closeScan of the least", x.closeScan(LEAST), JournaledTables.BADCUR);
        due.is("closeScan of the most", x.closeScan(MOST), JournaledTables.BADCUR);
        due.is("closeScan(0)", x.closeScan(0), 0);
        due.is("closeScan(0) again", x.closeScan(0), JournaledTables.BADCUR);
        due.is("closeScan(3)", x.closeScan(3), 0);
        due.is("closeScan(3) again", x.closeScan(3), JournaledTables.BADCUR);
        Due.put(x, 0, 9, 9);
        due.is("closeScan of a void one", x.closeScan(1), 0);
        due.is("closeScan of it again", x.closeScan(1), JournaledTables.BADCUR);
    }

    private static void closeWithoutPower() {
        due.sentence("A scan goes. DOWN; BADCUR.");
        JournaledTables x = threeRows();
        x.openScan(0, 0, 0, 9);
        x.crashAfter(0);
        x.commit();
        due.is("closeScan(0) without power", x.closeScan(0), JournaledTables.DOWN);
        due.is("closeScan(4) without power", x.closeScan(4), JournaledTables.DOWN);
        x.recover();
        due.is("closeScan(0) behind recover", x.closeScan(0), JournaledTables.BADCUR);
    }
}
