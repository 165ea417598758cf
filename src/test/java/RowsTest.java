/** Promises 8 (stage), 9 (insert), 10 (deleteKey) and 11 (updateCol). */
public final class RowsTest {
    private static final Due due = new Due();

    public static void main(String[] args) {
        stageSets();
        insertTakesTheFirstWords();
        insertIntoTheFirstPageWithRoom();
        insertFollowsTheChain();
        insertRefuses();
        insertWithoutRoom();
        deleteClearsTheSlot();
        deleteFreesPages();
        deleteRefuses();
        updateSets();
        updateRefuses();
        due.end();
    }

    private static void stageSets() {
        JournaledTables x = new JournaledTables();
        for (int i = 0; i < 6; i++) {
            due.is("stage outside a transaction", x.stage(i, 10 + i), 0);
        }
        for (int i : new int[] {Integer.MIN_VALUE, -1, 6, 7, Integer.MAX_VALUE}) {
            due.is("stage(" + i + ")", x.stage(i, 99), JournaledTables.BADARG);
        }
        x.begin();
        x.createTable(6);
        x.insert(0);
        for (int i = 0; i < 6; i++) {
            due.is("a staged word", x.lookup(0, 10, i), 10 + i);
        }
        x.rollback();
        Due.cutPower(x);
        due.is("stage without power", x.stage(0, 77), JournaledTables.DOWN);
        due.is("stage(6) without power", x.stage(6, 77), JournaledTables.DOWN);
        x.recover();
        x.begin();
        x.createTable(6);
        x.insert(0);
        due.is("recovering leaves the staged row", x.has(0, 10), true);
    }

    private static void insertTakesTheFirstWords() {
        JournaledTables x = Due.open(3);
        due.is("insert", Due.put(x, 0, 1, 2, 3, 4, 5, 6), 0);
        x.commit();
        due.block("page", x, 1, 1, 0, 1, 1, 2, 3);
    }

    private static void insertIntoTheFirstPageWithRoom() {
        JournaledTables x = Due.open(6);
        for (int key = 0; key < 6; key++) {
            Due.put(x, 0, key, 0, 0, 0, 0, 0);
        }
        x.deleteKey(0, 5);
        x.deleteKey(0, 2);
        x.deleteKey(0, 1);
        x.stage(0, 40);
        x.insert(0);
        x.stage(0, 41);
        x.insert(0);
        x.stage(0, 42);
        x.insert(0);
        x.commit();
        due.block("first page", x, 1, 1, 2, 3, 0, 0, 0, 0, 0, 0, 40);
        due.block("second page", x, 2, 1, 3, 3, 41, 0, 0, 0, 0, 0, 3);
        due.block("third page", x, 3, 1, 0, 3, 4, 0, 0, 0, 0, 0, 42);
    }

    /** Pages may follow one another against the order of their numbers. */
    private static void insertFollowsTheChain() {
        JournaledTables x = Due.open(6, 6);
        Due.put(x, 1, 1, 0, 0, 0, 0, 0);
        for (int key = 0; key < 4; key++) {
            x.stage(0, key);
            x.insert(0);
        }
        x.dropTable(1);
        x.stage(0, 4);
        x.insert(0);
        x.commit();
        due.is("first page", x.peek(0, 8), 2);
        due.is("behind it", x.peek(2, 1), 3);
        due.is("the lowest free one comes last", x.peek(3, 1), 1);
        due.is("and ends the chain", x.peek(1, 1), 0);
        x.begin();
        x.deleteKey(0, 3);
        x.stage(0, 9);
        x.insert(0);
        x.commit();
        due.is("page 3 goes before page 1", x.peek(3, 2), 3);
        due.is("page 3 has the new row", x.peek(3, 9), 9);
        due.is("page 1 has not", x.peek(1, 2), 1);
        due.rows("keys", x, 0, 0, 0, 1, 2, 4, 9);
        x.begin();
        x.deleteKey(0, 2);
        x.deleteKey(0, 9);
        x.commit();
        due.is("page 2 leads to page 1", x.peek(2, 1), 1);
        due.block("page 3 is free", x, 3);
    }

    private static void insertRefuses() {
        JournaledTables x = new JournaledTables();
        due.is("NOTXN goes before NOTABLE", x.insert(0), JournaledTables.NOTXN);
        x.begin();
        for (int t : new int[] {Integer.MIN_VALUE, -1, 0, 5, 8, Integer.MAX_VALUE}) {
            due.is("insert(" + t + ")", x.insert(t), JournaledTables.NOTABLE);
        }
        x.createTable(2);
        x.createTable(2);
        due.is("insert", Due.put(x, 0, 7, 70), 0);
        due.is("the key again", Due.put(x, 0, 7, 71), JournaledTables.DUPKEY);
        due.is("the first row stays", x.lookup(0, 7, 1), 70);
        due.is("count", x.count(0), 1);
        due.is("another table may have the key", x.insert(1), 0);
        due.is("a key that a row has as another word", Due.put(x, 0, 70, 7), 0);
        x.commit();
        due.is("NOTXN", x.insert(0), JournaledTables.NOTXN);
        Due.cutPower(x);
        due.is("DOWN", x.insert(0), JournaledTables.DOWN);
    }

    private static void insertWithoutRoom() {
        JournaledTables x = Due.open(6, 2);
        for (int key = 0; key < 28; key++) {
            x.stage(0, key);
            due.is("insert", x.insert(0), 0);
        }
        for (int key = 0; key < 6; key++) {
            x.stage(0, key);
            due.is("insert into the last page", x.insert(1), 0);
        }
        x.stage(0, 100);
        due.is("no page for table 0", x.insert(0), JournaledTables.NOROOM);
        due.is("no page for table 1", x.insert(1), JournaledTables.NOROOM);
        x.stage(0, 5);
        due.is("DUPKEY goes before NOROOM", x.insert(0), JournaledTables.DUPKEY);
        due.is("rows of table 0", x.count(0), 28);
        due.is("rows of table 1", x.count(1), 6);
        x.deleteKey(0, 13);
        x.stage(0, 100);
        due.is("still no page for table 1", x.insert(1), JournaledTables.NOROOM);
        due.is("but a slot for table 0", x.insert(0), 0);
        x.deleteKey(0, 100);
        x.deleteKey(0, 12);
        due.is("a page was freed for table 1", x.insert(1), 0);
        due.is("and is taken from table 0", x.insert(0), JournaledTables.NOROOM);
        x.commit();
        due.block("it is the freed page", x, 7, 2, 0, 1, 100);
        due.is("the chain goes round it", x.peek(6, 1), 8);
    }

    private static void deleteClearsTheSlot() {
        JournaledTables x = Due.open(4);
        Due.put(x, 0, 1, 2, 3, 4);
        Due.put(x, 0, 5, 6, 7, 8);
        Due.put(x, 0, 9, 10, 11, 12);
        due.is("deleteKey", x.deleteKey(0, 5), 0);
        due.is("it is gone", x.has(0, 5), false);
        due.is("deleteKey again", x.deleteKey(0, 5), JournaledTables.NOKEY);
        x.commit();
        due.block("page", x, 1, 1, 0, 5, 1, 2, 3, 4, 0, 0, 0, 0, 9, 10, 11, 12);
    }

    private static void deleteFreesPages() {
        JournaledTables x = Due.open(5);
        for (int key = 0; key < 8; key++) {
            Due.put(x, 0, key, 1, 1, 1, 1);
        }
        x.deleteKey(0, 2);
        x.deleteKey(0, 3);
        x.commit();
        due.is("from page 1 to page 3", x.peek(1, 1), 3);
        due.block("page 2 is free", x, 2);
        x.begin();
        x.deleteKey(0, 0);
        x.deleteKey(0, 1);
        x.deleteKey(0, 6);
        x.deleteKey(0, 7);
        x.commit();
        due.is("from the catalogue to page 3", x.peek(0, 8), 3);
        due.is("page 3 is the last", x.peek(3, 1), 0);
        due.block("page 1 is free", x, 1);
        due.block("page 4 is free", x, 4);
        x.begin();
        x.deleteKey(0, 4);
        x.deleteKey(0, 5);
        x.commit();
        due.block("a table without rows has no page", x, 0, 5);
        due.block("page 3 is free", x, 3);
        due.is("count", x.count(0), 0);
        x.begin();
        due.is("insert", x.insert(0), 0);
        x.commit();
        due.is("the lowest free page", x.peek(0, 8), 1);
    }

    private static void deleteRefuses() {
        JournaledTables x = new JournaledTables();
        due.is("NOTXN goes first", x.deleteKey(0, 0), JournaledTables.NOTXN);
        x.begin();
        for (int t : new int[] {Integer.MIN_VALUE, -1, 0, 5, Integer.MAX_VALUE}) {
            due.is("deleteKey(" + t + ", 0)", x.deleteKey(t, 0), JournaledTables.NOTABLE);
        }
        x.createTable(2);
        due.is("slots without a row have no key 0", x.deleteKey(0, 0), JournaledTables.NOKEY);
        Due.put(x, 0, 1, 0);
        due.is("nor beside one that has", x.deleteKey(0, 0), JournaledTables.NOKEY);
        x.commit();
        due.is("NOTXN", x.deleteKey(0, 1), JournaledTables.NOTXN);
        due.is("it stays", x.has(0, 1), true);
        Due.cutPower(x);
        due.is("DOWN", x.deleteKey(0, 1), JournaledTables.DOWN);
    }

    private static void updateSets() {
        JournaledTables x = Due.open(6);
        Due.put(x, 0, 1, 2, 3, 4, 5, 6);
        Due.put(x, 0, 11, 12, 13, 14, 15, 16);
        for (int col = 1; col < 6; col++) {
            due.is("updateCol", x.updateCol(0, 11, col, 100 + col), 0);
        }
        due.is("lookup", x.lookup(0, 11, 5), 105);
        x.commit();
        due.block("page", x, 1, 1, 0, 3, 1, 2, 3, 4, 5, 6, 11, 101, 102, 103, 104, 105);
    }

    private static void updateRefuses() {
        JournaledTables x = new JournaledTables();
        due.is("NOTXN goes before NOTABLE", x.updateCol(0, 0, 9, 0), JournaledTables.NOTXN);
        x.begin();
        for (int t : new int[] {Integer.MIN_VALUE, -1, 0, 5, Integer.MAX_VALUE}) {
            due.is("NOTABLE goes before BADARG", x.updateCol(t, 0, 9, 0), JournaledTables.NOTABLE);
        }
        x.createTable(3);
        Due.put(x, 0, 1, 2, 3);
        for (int col : new int[] {Integer.MIN_VALUE, -1, 0, 3, 6, Integer.MAX_VALUE}) {
            due.is("BADARG", x.updateCol(0, 1, col, 9), JournaledTables.BADARG);
            due.is("BADARG goes before NOKEY", x.updateCol(0, 2, col, 9), JournaledTables.BADARG);
        }
        due.is("NOKEY", x.updateCol(0, 2, 1, 9), JournaledTables.NOKEY);
        due.is("slots without a row have no key 0", x.updateCol(0, 0, 1, 9), JournaledTables.NOKEY);
        x.commit();
        due.block("nothing changed", x, 1, 1, 0, 1, 1, 2, 3);
        due.is("NOTXN", x.updateCol(0, 1, 1, 9), JournaledTables.NOTXN);
        Due.cutPower(x);
        due.is("DOWN", x.updateCol(0, 1, 1, 9), JournaledTables.DOWN);
    }
}
