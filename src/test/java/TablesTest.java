/** Promises 3 (createTable) and 4 (dropTable). */
public final class TablesTest {
    private static final Due due = new Due();

    public static void main(String[] args) {
        createNumbers();
        createRefuses();
        createOrderOfCodes();
        createOnDisk();
        dropFreesTheNumber();
        dropFreesThePages();
        dropRefuses();
        due.end();
    }

    private static void createNumbers() {
        JournaledTables x = new JournaledTables();
        x.begin();
        for (int t = 0; t < 5; t++) {
            due.is("createTable", x.createTable(2 + t), t);
            due.is("a new table has no rows", x.count(t), 0);
        }
        due.is("a sixth table", x.createTable(2), JournaledTables.NOROOM);
        due.is("a sixth table of no width", x.createTable(1), JournaledTables.BADARG);
        for (int t = 0; t < 5; t++) {
            due.is("the last column", x.openScan(t, 1 + t, 0, 0), 0);
            x.closeScan(0);
            due.is("one column more", x.openScan(t, 2 + t, 0, 0), JournaledTables.BADARG);
        }
        due.is("commit", x.commit(), 0);
        due.is("a sixth table outside a transaction", x.createTable(2), JournaledTables.NOTXN);
    }

    private static void createRefuses() {
        JournaledTables x = new JournaledTables();
        x.begin();
        for (int cols : new int[] {Integer.MIN_VALUE, -1, 0, 1, 7, 8, Integer.MAX_VALUE}) {
            due.is("createTable(" + cols + ")", x.createTable(cols), JournaledTables.BADARG);
        }
        due.is("what is refused makes no table", x.count(0), JournaledTables.NOTABLE);
        x.commit();
        due.is("nothing was written", x.writes(), 0);
    }

    private static void createOrderOfCodes() {
        JournaledTables x = new JournaledTables();
        due.is("BADARG goes before NOTXN", x.createTable(7), JournaledTables.BADARG);
        due.is("NOTXN", x.createTable(6), JournaledTables.NOTXN);
        Due.cutPower(x);
        due.is("DOWN goes before BADARG", x.createTable(7), JournaledTables.DOWN);
        due.is("DOWN goes before NOTXN", x.createTable(2), JournaledTables.DOWN);
    }

    private static void createOnDisk() {
        JournaledTables x = Due.open(2, 3, 4, 5, 6);
        due.block("before the commit", x, 0);
        x.commit();
        due.block("tables without rows", x, 0, 2, 3, 4, 5, 6);
        due.is("writes", x.writes(), 4);
    }

    private static void dropFreesTheNumber() {
        JournaledTables x = Due.open(2, 3, 4);
        due.is("dropTable", x.dropTable(1), 0);
        due.is("it is gone", x.count(1), JournaledTables.NOTABLE);
        due.is("has", x.has(1, 0), false);
        due.is("the others stay", x.count(0) + x.count(2), 0);
        due.is("the least free number", x.createTable(6), 1);
        due.is("the next", x.createTable(6), 3);
        x.dropTable(3);
        x.dropTable(0);
        due.is("the least of two", x.createTable(5), 0);
        x.commit();
        due.block("catalogue", x, 0, 5, 6, 4);
    }

    private static void dropFreesThePages() {
        JournaledTables x = Due.open(6, 6);
        for (int key = 1; key <= 5; key++) {
            Due.put(x, 0, key, 1, 2, 3, 4, 5);
            Due.put(x, 1, key, 6, 7, 8, 9, 10);
        }
        x.commit();
        due.is("first page of table 0", x.peek(0, 8), 1);
        due.is("first page of table 1", x.peek(0, 9), 2);
        due.is("third page of table 1", x.peek(6, 0), 2);
        x.begin();
        due.is("dropTable", x.dropTable(0), 0);
        x.commit();
        due.block("catalogue", x, 0, 0, 6, 0, 0, 0, 0, 0, 0, 0, 2);
        for (int b : new int[] {1, 3, 5}) {
            due.block("a free page", x, b);
        }
        due.is("rows of the other table", x.count(1), 5);
        x.begin();
        x.createTable(2);
        due.is("a new table of the number has no rows", x.count(0), 0);
        Due.put(x, 0, 9, 9);
        x.commit();
        due.is("a free page is used again", x.peek(0, 8), 1);
        due.block("the page used again", x, 1, 1, 0, 1, 9, 9);
    }

    private static void dropRefuses() {
        JournaledTables x = new JournaledTables();
        due.is("NOTXN goes before NOTABLE", x.dropTable(0), JournaledTables.NOTXN);
        x.begin();
        x.createTable(2);
        for (int t : new int[] {Integer.MIN_VALUE, -1, 1, 4, 5, 8, 16, Integer.MAX_VALUE}) {
            due.is("dropTable(" + t + ")", x.dropTable(t), JournaledTables.NOTABLE);
        }
        x.commit();
        due.is("NOTXN", x.dropTable(0), JournaledTables.NOTXN);
        due.is("it stays", x.count(0), 0);
        Due.cutPower(x);
        due.is("DOWN", x.dropTable(0), JournaledTables.DOWN);
    }
}
