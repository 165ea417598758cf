/** The boundaries in the sentences of promises 1 to 7: a new object, format, tables and transactions. */
public final class EdgesOfTablesTest {
    private static final Due due = new Due();

    public static void main(String[] args) {
        newIsAsFormatted();
        newStagedRow();
        formatClearsTheDisk();
        formatClearsTheMemory();
        formatEndsAll();
        formatKeeps();
        createWidths();
        createLeastFree();
        createOutsideATransaction();
        createWithoutRoom();
        dropNumbers();
        dropFreesPages();
        dropOutsideATransaction();
        beginNested();
        commitCloses();
        commitWithoutPower();
        commitOutsideATransaction();
        rollbackIsTheDisk();
        rollbackOutsideATransaction();
        due.end();
    }

    private static void newIsAsFormatted() {
        due.sentence("As formatted");
        JournaledTables x = new JournaledTables();
        due.is("writes", x.writes(), 0);
        due.is("peek(0, 0)", x.peek(0, 0), 0);
        due.is("peek(32, 15)", x.peek(32, 15), 0);
        due.is("rollback", x.rollback(), JournaledTables.NOTXN);
        due.is("count(0)", x.count(0), JournaledTables.NOTABLE);
        due.is("count(4)", x.count(4), JournaledTables.NOTABLE);
        due.is("closeScan(0)", x.closeScan(0), JournaledTables.BADCUR);
        due.is("closeScan(3)", x.closeScan(3), JournaledTables.BADCUR);
        due.is("recover finds no head", x.recover(), 0);
        due.is("it wrote nothing", x.writes(), 0);
        x.begin();
        x.createTable(2);
        due.is("no crash is set", x.commit(), 0);
    }

    private static void newStagedRow() {
        due.sentence("the staged row all 0");
        JournaledTables x = Due.open(6);
        due.is("the key 0 is not there", x.has(0, 0), false);
        due.is("insert", x.insert(0), 0);
        due.is("the key 0 is there", x.has(0, 0), true);
        x.commit();
        due.block("five more words, all 0", x, 1, 1, 0, 1);
    }

    /** Of each word of the disk by the one or the other of two stores: it takes 528 calls to see all. */
    private static void formatClearsTheDisk() {
        due.sentence("All words of the disk and of the memory are 0");
        for (int half = 0; half < 2; half++) {
            JournaledTables x = Due.full(6);
            x.commit();
            x.begin();
            x.dropTable(0);
            x.crashAfter(17);
            x.commit();
            due.is("the head before", x.peek(16, 1), 16);
            due.is("the last image before", x.peek(32, 14), 5029);
            due.is("the last page before", x.peek(15, 14), 5029);
            due.is("format", x.format(), 0);
            for (int place = half; place < 33 * 16; place += 2) {
                due.is("peek(" + place / 16 + ", " + place % 16 + ")", x.peek(place / 16, place % 16), 0);
            }
        }
    }

    private static void formatClearsTheMemory() {
        due.sentence("All words of the disk and of the memory are 0");
        JournaledTables x = Due.full(2);
        due.is("count before", x.count(0), 90);
        x.format();
        due.is("no table 0", x.count(0), JournaledTables.NOTABLE);
        due.is("no row", x.has(0, 0), false);
        x.begin();
        due.is("commit finds no difference", x.commit(), 0);
        due.is("no write", x.writes(), 0);
        x.begin();
        x.createTable(2);
        due.is("a new table 0 has no row", x.count(0), 0);
        due.is("insert", x.insert(0), 0);
        x.commit();
        due.is("into page 1", x.peek(0, 8), 1);
    }

    private static void formatEndsAll() {
        due.sentence("the power is on, no crash is set, no transaction open, no scan");
        JournaledTables x = Due.open(2);
        for (int c = 0; c < 4; c++) {
            x.openScan(0, 0, 0, 0);
        }
        x.crashAfter(0);
        due.is("format with the power on", x.format(), 0);
        for (int c = 0; c < 4; c++) {
            due.is("closeScan(" + c + ")", x.closeScan(c), JournaledTables.BADCUR);
        }
        due.is("commit", x.commit(), JournaledTables.NOTXN);
        due.is("begin", x.begin(), 0);
        due.is("createTable", x.createTable(2), 0);
        due.is("commit without the crash", x.commit(), 0);
        Due.cutPower(x);
        due.is("begin without power", x.begin(), JournaledTables.DOWN);
        due.is("crashAfter", x.crashAfter(0), 0);
        due.is("format with the power off", x.format(), 0);
        due.is("begin", x.begin(), 0);
        due.is("createTable", x.createTable(2), 0);
        due.is("commit without the crash", x.commit(), 0);
    }

    private static void formatKeeps() {
        due.sentence("the staged row stays, and so does the number of writes (these are none)");
        JournaledTables x = Due.open(6);
        for (int i = 0; i < 6; i++) {
            x.stage(i, 60 + i);
        }
        x.commit();
        due.is("writes before", x.writes(), 4);
        x.format();
        x.format();
        due.is("writes behind", x.writes(), 4);
        x.begin();
        x.createTable(6);
        x.insert(0);
        for (int i = 0; i < 6; i++) {
            due.is("word " + i, x.lookup(0, 60, i), 60 + i);
        }
    }

    private static void createWidths() {
        due.sentence("BADARG when cols is not 2 .. 6");
        JournaledTables x = new JournaledTables();
        x.begin();
        due.is("createTable(1)", x.createTable(1), JournaledTables.BADARG);
        due.is("createTable(2)", x.createTable(2), 0);
        due.is("createTable(6)", x.createTable(6), 1);
        due.is("createTable(7)", x.createTable(7), JournaledTables.BADARG);
        due.is("createTable(0)", x.createTable(0), JournaledTables.BADARG);
        due.is("createTable(-2)", x.createTable(-2), JournaledTables.BADARG);
        due.is("createTable of the least", x.createTable(Integer.MIN_VALUE), JournaledTables.BADARG);
        due.is("createTable of the most", x.createTable(Integer.MAX_VALUE), JournaledTables.BADARG);
        x.commit();
        due.block("two tables", x, 0, 2, 6);
    }

    private static void createLeastFree() {
        due.sentence("A new table of this width; answers its number, the least that is free.");
        for (int gone = 0; gone < 5; gone++) {
            JournaledTables x = Due.open(2, 2, 2, 2, 2);
            x.dropTable(gone);
            due.is("the only free one", x.createTable(3), gone);
            due.is("then none", x.createTable(3), JournaledTables.NOROOM);
            x.dropTable(4);
            x.dropTable(gone);
            due.is("the lesser of two", x.createTable(4), gone);
            x.commit();
            due.is("its width", x.peek(0, gone), 4);
        }
    }

    private static void createOutsideATransaction() {
        due.sentence("DOWN; BADARG when cols is not 2 .. 6; NOTXN");
        JournaledTables x = new JournaledTables();
        due.is("before begin", x.createTable(2), JournaledTables.NOTXN);
        x.begin();
        due.is("behind begin", x.createTable(2), 0);
        x.rollback();
        due.is("behind rollback", x.createTable(2), JournaledTables.NOTXN);
        x.begin();
        x.createTable(2);
        x.crashAfter(0);
        x.commit();
        due.is("without power", x.createTable(2), JournaledTables.DOWN);
        x.recover();
        due.is("behind recover", x.createTable(2), JournaledTables.NOTXN);
        due.is("no table came", x.count(0), JournaledTables.NOTABLE);
    }

    private static void createWithoutRoom() {
        due.sentence("NOROOM when there are 5.");
        JournaledTables x = Due.open(2, 3, 4, 5);
        due.is("the fifth", x.createTable(6), 4);
        due.is("the sixth", x.createTable(2), JournaledTables.NOROOM);
        x.commit();
        due.block("five", x, 0, 2, 3, 4, 5, 6);
        x.begin();
        due.is("the sixth in the next transaction", x.createTable(2), JournaledTables.NOROOM);
        x.dropTable(2);
        due.is("a fifth again", x.createTable(2), 2);
        x.rollback();
        x.begin();
        due.is("the sixth behind a rollback", x.createTable(2), JournaledTables.NOROOM);
        due.is("a table without a free page", Due.full(6).createTable(2), 1);
    }

    private static void dropNumbers() {
        due.sentence("A table goes, its pages become free. DOWN; NOTXN; NOTABLE.");
        JournaledTables x = Due.open(2, 2, 2, 2);
        due.is("dropTable(-1)", x.dropTable(-1), JournaledTables.NOTABLE);
        due.is("dropTable(4) without it", x.dropTable(4), JournaledTables.NOTABLE);
        x.createTable(2);
        due.is("dropTable(5)", x.dropTable(5), JournaledTables.NOTABLE);
        due.is("dropTable(8)", x.dropTable(8), JournaledTables.NOTABLE);
        due.is("dropTable(4)", x.dropTable(4), 0);
        due.is("dropTable(4) again", x.dropTable(4), JournaledTables.NOTABLE);
        due.is("dropTable(0)", x.dropTable(0), 0);
        due.is("dropTable(0) again", x.dropTable(0), JournaledTables.NOTABLE);
        due.is("dropTable of the least", x.dropTable(Integer.MIN_VALUE), JournaledTables.NOTABLE);
        due.is("dropTable of the most", x.dropTable(Integer.MAX_VALUE), JournaledTables.NOTABLE);
        x.commit();
        due.block("the three others", x, 0, 0, 2, 2, 2);
    }

    private static void dropFreesPages() {
        due.sentence("A table goes, its pages become free.");
        JournaledTables x = Due.full(6);
        x.createTable(6);
        due.is("no page is free", Due.put(x, 1, -1), JournaledTables.NOROOM);
        x.commit();
        x.begin();
        due.is("dropTable", x.dropTable(0), 0);
        for (int key = 0; key < 30; key++) {
            due.is("each page is free", Due.put(x, 1, -1 - key), 0);
        }
        due.is("and no more", Due.put(x, 1, -31), JournaledTables.NOROOM);
        x.commit();
        due.is("the first page", x.peek(0, 9), 1);
        due.is("the last page", x.peek(15, 0), 2);
        x.begin();
        x.dropTable(1);
        x.commit();
        due.block("no table, no page", x, 0);
        due.block("the first page is free", x, 1);
        due.block("the last page is free", x, 15);
    }

    private static void dropOutsideATransaction() {
        due.sentence("DOWN; NOTXN; NOTABLE.");
        JournaledTables x = Due.open(2);
        x.commit();
        due.is("behind commit", x.dropTable(0), JournaledTables.NOTXN);
        x.begin();
        due.is("behind begin", x.dropTable(0), 0);
        x.rollback();
        due.is("behind rollback", x.dropTable(0), JournaledTables.NOTXN);
        due.is("the table is there", x.count(0), 0);
        Due.cutPower(x);
        due.is("without power", x.dropTable(0), JournaledTables.DOWN);
        x.recover();
        due.is("the table is still there", x.count(0), 0);
    }

    private static void beginNested() {
        due.sentence("Opens a transaction. DOWN; NESTED.");
        JournaledTables x = new JournaledTables();
        due.is("the first", x.begin(), 0);
        due.is("a second in it", x.begin(), JournaledTables.NESTED);
        due.is("a third in it", x.begin(), JournaledTables.NESTED);
        due.is("one rollback closes it", x.rollback(), 0);
        due.is("behind rollback", x.begin(), 0);
        due.is("commit", x.commit(), 0);
        due.is("behind commit", x.begin(), 0);
        x.recover();
        due.is("behind recover", x.begin(), 0);
        x.format();
        due.is("behind format", x.begin(), 0);
        x.createTable(2);
        x.crashAfter(0);
        x.commit();
        due.is("without power", x.begin(), JournaledTables.DOWN);
        x.recover();
        due.is("with power again", x.begin(), 0);
    }

    private static void commitCloses() {
        due.sentence("Commits, and closes the transaction.");
        JournaledTables x = Due.open(2);
        due.is("nothing is on disk", x.peek(0, 0), 0);
        due.is("commit", x.commit(), 0);
        due.is("now it is", x.peek(0, 0), 2);
        due.is("insert behind it", x.insert(0), JournaledTables.NOTXN);
        x.begin();
        due.is("commit of nothing", x.commit(), 0);
        due.is("insert behind that", x.insert(0), JournaledTables.NOTXN);
    }

    private static void commitWithoutPower() {
        due.sentence("DOWN (also when the power fails in it)");
        for (int n = 0; n <= 4; n++) {
            JournaledTables x = Due.open(2);
            x.crashAfter(n);
            due.is("commit, crash after " + n, x.commit(), n < 4 ? JournaledTables.DOWN : 0);
            due.is("commit again", x.commit(), n < 4 ? JournaledTables.DOWN : JournaledTables.NOTXN);
        }
    }

    private static void commitOutsideATransaction() {
        due.sentence("DOWN (also when the power fails in it); NOTXN.");
        JournaledTables x = new JournaledTables();
        due.is("before begin", x.commit(), JournaledTables.NOTXN);
        x.begin();
        due.is("behind begin", x.commit(), 0);
        due.is("behind commit", x.commit(), JournaledTables.NOTXN);
        x.begin();
        x.rollback();
        due.is("behind rollback", x.commit(), JournaledTables.NOTXN);
    }

    private static void rollbackIsTheDisk() {
        due.sentence("The memory is the disk again, and the transaction closed.");
        JournaledTables x = Due.full(6);
        due.is("rollback to an empty disk", x.rollback(), 0);
        due.is("no table", x.count(0), JournaledTables.NOTABLE);
        x.begin();
        x.createTable(2);
        x.commit();
        x.begin();
        Due.put(x, 0, 1, 1);
        due.is("rollback of one row", x.rollback(), 0);
        due.is("no row", x.count(0), 0);
        x.begin();
        due.is("rollback of nothing", x.rollback(), 0);
        due.is("the table stays", x.count(0), 0);
        due.is("writes are those of the commit", x.writes(), 4);
        due.is("the transaction is closed", x.insert(0), JournaledTables.NOTXN);
        x.begin();
        due.is("commit finds no difference", x.commit(), 0);
        due.is("writes", x.writes(), 4);
    }

    private static void rollbackOutsideATransaction() {
        due.sentence("The memory is the disk again, and the transaction closed. DOWN; NOTXN.");
        JournaledTables x = new JournaledTables();
        due.is("before begin", x.rollback(), JournaledTables.NOTXN);
        x.begin();
        due.is("behind begin", x.rollback(), 0);
        due.is("behind rollback", x.rollback(), JournaledTables.NOTXN);
        x.begin();
        x.commit();
        due.is("behind commit", x.rollback(), JournaledTables.NOTXN);
        Due.cutPower(x);
        due.is("without power", x.rollback(), JournaledTables.DOWN);
    }
}
