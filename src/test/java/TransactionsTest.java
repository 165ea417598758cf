/** Promises 5 (begin), 6 (commit) and 7 (rollback). */
public final class TransactionsTest {
    private static final Due due = new Due();

    public static void main(String[] args) {
        openAndClosed();
        commitWritesWhatDiffers();
        commitOfNothing();
        commitLeavesImages();
        commitOfAllBlocks();
        headOfACommit();
        rollbackTakesBack();
        withoutPower();
        due.end();
    }

    private static void openAndClosed() {
        JournaledTables x = new JournaledTables();
        due.is("commit at first", x.commit(), JournaledTables.NOTXN);
        due.is("rollback at first", x.rollback(), JournaledTables.NOTXN);
        due.is("begin", x.begin(), 0);
        due.is("begin again", x.begin(), JournaledTables.NESTED);
        due.is("commit", x.commit(), 0);
        due.is("commit again", x.commit(), JournaledTables.NOTXN);
        due.is("begin", x.begin(), 0);
        due.is("rollback", x.rollback(), 0);
        due.is("rollback again", x.rollback(), JournaledTables.NOTXN);
        due.is("begin", x.begin(), 0);
        due.is("a refused begin left it open", x.createTable(2), 0);
    }

    private static void commitWritesWhatDiffers() {
        JournaledTables x = Due.open(2);
        Due.put(x, 0, 1, 10);
        due.is("no write before the commit", x.writes(), 0);
        due.block("before the commit", x, 1);
        due.is("commit", x.commit(), 0);
        due.is("two images, two blocks, two heads", x.writes(), 6);
        due.block("catalogue", x, 0, 2, 0, 0, 0, 0, 0, 0, 0, 1);
        due.block("page", x, 1, 1, 0, 1, 1, 10);
        due.block("head", x, 16);
        x.begin();
        x.updateCol(0, 1, 1, 11);
        due.is("commit", x.commit(), 0);
        due.is("one image, one block, two heads", x.writes(), 10);
        due.block("page", x, 1, 1, 0, 1, 1, 11);
        due.block("image of it", x, 17, 1, 0, 1, 1, 10);
    }

    private static void commitOfNothing() {
        JournaledTables x = Due.open(2);
        Due.put(x, 0, 1, 10);
        x.commit();
        x.begin();
        x.updateCol(0, 1, 1, 99);
        x.updateCol(0, 1, 1, 10);
        Due.put(x, 0, 2, 20);
        x.deleteKey(0, 2);
        x.createTable(3);
        x.dropTable(1);
        x.crashAfter(0);
        due.is("commit of what was undone by hand", x.commit(), 0);
        due.is("nothing written", x.writes(), 6);
        due.is("and closed", x.commit(), JournaledTables.NOTXN);
    }

    private static void commitLeavesImages() {
        JournaledTables x = Due.open(2, 2);
        Due.put(x, 0, 1, 10);
        Due.put(x, 1, 2, 20);
        x.commit();
        x.begin();
        x.updateCol(1, 2, 1, 21);
        x.updateCol(0, 1, 1, 11);
        x.commit();
        due.block("image of the lower block", x, 17, 1, 0, 1, 1, 10);
        due.block("image of the higher block", x, 18, 2, 0, 1, 2, 20);
        x.begin();
        x.updateCol(1, 2, 1, 22);
        x.commit();
        due.block("images start at 17 again", x, 17, 2, 0, 1, 2, 21);
        due.block("what is behind them stays", x, 18, 2, 0, 1, 2, 20);
    }

    private static void commitOfAllBlocks() {
        JournaledTables x = Due.open(6);
        for (int key = 0; key < 30; key++) {
            x.stage(0, key);
            due.is("insert", x.insert(0), 0);
        }
        due.is("commit", x.commit(), 0);
        due.is("sixteen images and blocks, two heads", x.writes(), 34);
        x.begin();
        x.dropTable(0);
        x.crashAfter(17);
        due.is("commit fails behind the head", x.commit(), JournaledTables.DOWN);
        due.is("n", x.peek(16, 1), 16);
        due.is("blocks", x.peek(16, 2), 65535);
        due.block("the last image", x, 32, 1, 0, 3, 28, 0, 0, 0, 0, 0, 29);
        due.is("recover", x.recover(), 0);
        due.is("rows", x.count(0), 30);
        due.is("writes", x.writes(), 34 + 17 + 17);
    }

    private static void headOfACommit() {
        JournaledTables x = Due.open(2, 2);
        Due.put(x, 0, 1, 10);
        Due.put(x, 1, Integer.MIN_VALUE, -5);
        x.commit();
        x.begin();
        x.updateCol(0, 1, 1, 11);
        x.deleteKey(1, Integer.MIN_VALUE);
        x.crashAfter(4);
        due.is("commit", x.commit(), JournaledTables.DOWN);
        int check = 1;
        for (int b = 17; b < 20; b++) {
            for (int w = 0; w < 16; w++) {
                check = 31 * check + x.peek(b, w);
            }
        }
        due.block("head", x, 16, 6517, 3, 7, check);
        due.block("image of the catalogue", x, 17, 2, 2, 0, 0, 0, 0, 0, 0, 1, 2);
        due.block("image of page 2", x, 19, 2, 0, 1, Integer.MIN_VALUE, -5);
    }

    private static void rollbackTakesBack() {
        JournaledTables x = Due.open(3);
        Due.put(x, 0, 1, 10, 100);
        Due.put(x, 0, 2, 20, 200);
        x.commit();
        int before = x.writes();
        x.begin();
        x.createTable(2);
        Due.put(x, 1, 5, 5);
        x.deleteKey(0, 1);
        x.updateCol(0, 2, 2, 0);
        Due.put(x, 0, 3, 30, 300);
        due.is("rollback", x.rollback(), 0);
        due.is("no such table", x.count(1), JournaledTables.NOTABLE);
        due.rows("keys", x, 0, 0, 1, 2);
        due.rows("words", x, 0, 2, 100, 200);
        due.is("nothing written", x.writes(), before);
        due.is("closed", x.insert(0), JournaledTables.NOTXN);
        x.begin();
        x.dropTable(0);
        due.is("rollback of a drop", x.rollback(), 0);
        due.rows("keys", x, 0, 0, 1, 2);
        x.begin();
        x.createTable(2);
        due.is("the staged row is not taken back", x.insert(1), 0);
        due.is("has", x.has(1, 3), true);
    }

    private static void withoutPower() {
        JournaledTables x = new JournaledTables();
        Due.cutPower(x);
        due.is("begin", x.begin(), JournaledTables.DOWN);
        due.is("commit", x.commit(), JournaledTables.DOWN);
        due.is("rollback", x.rollback(), JournaledTables.DOWN);
        due.is("recover", x.recover(), 0);
        due.is("no transaction is open", x.commit(), JournaledTables.NOTXN);
        due.is("begin", x.begin(), 0);
    }
}
