/** Promises 1 (a new object) and 2 (format). */
public final class NewAndFormatTest {
    private static final Due due = new Due();

    public static void main(String[] args) {
        newObject();
        stagedRowAtFirst();
        formatClears();
        formatKeeps();
        formatTurnsThePowerOn();
        formatForgetsTheCrash();
        formatForgetsTheHead();
        due.end();
    }

    private static void blank(String when, JournaledTables x) {
        due.is(when + ": commit", x.commit(), JournaledTables.NOTXN);
        for (int t = -1; t < 6; t++) {
            due.is(when + ": count", x.count(t), JournaledTables.NOTABLE);
        }
        for (int c = 0; c < 4; c++) {
            due.is(when + ": closeScan", x.closeScan(c), JournaledTables.BADCUR);
        }
    }

    private static void newObject() {
        JournaledTables x = new JournaledTables();
        blank("new", x);
        due.is("new: writes", x.writes(), 0);
        for (int b = 0; b < 30; b++) {
            due.block("new", x, b);
        }
        JournaledTables y = new JournaledTables();
        for (int b = 30; b < 33; b++) {
            due.block("new", y, b);
        }
    }

    private static void stagedRowAtFirst() {
        JournaledTables x = Due.open(6);
        due.is("insert of the staged row", x.insert(0), 0);
        due.is("has(0, 0)", x.has(0, 0), true);
        for (int i = 0; i < 6; i++) {
            due.is("lookup of a word never staged", x.lookup(0, 0, i), 0);
        }
    }

    private static void formatClears() {
        JournaledTables x = Due.open(3);
        Due.put(x, 0, 1, 2, 3);
        x.commit();
        x.begin();
        Due.put(x, 0, 4, 5, 6);
        x.commit();
        x.begin();
        x.openScan(0, 0, 0, 9);
        due.is("format", x.format(), 0);
        blank("formatted", x);
        for (int b : new int[] {0, 1, 2, 16, 17, 18, 19}) {
            due.block("formatted", x, b);
        }
        due.is("begin", x.begin(), 0);
        due.is("createTable has a number again", x.createTable(2), 0);
        due.is("no row is left", x.count(0), 0);
        due.is("a scan has number 0 again", x.openScan(0, 0, 0, 0), 0);
    }

    private static void formatKeeps() {
        JournaledTables x = Due.open(2);
        Due.put(x, 0, 7, 8);
        x.commit();
        due.is("writes before", x.writes(), 6);
        x.format();
        due.is("writes stay", x.writes(), 6);
        x.begin();
        x.createTable(2);
        due.is("insert", x.insert(0), 0);
        due.is("the staged row stays", x.lookup(0, 7, 1), 8);
        x.commit();
        due.is("writes go on", x.writes(), 12);
    }

    private static void formatTurnsThePowerOn() {
        JournaledTables x = new JournaledTables();
        Due.cutPower(x);
        due.is("begin without power", x.begin(), JournaledTables.DOWN);
        due.is("format without power", x.format(), 0);
        blank("formatted without power", x);
        due.is("begin", x.begin(), 0);
        due.is("createTable", x.createTable(2), 0);
        due.is("commit", x.commit(), 0);
    }

    private static void formatForgetsTheCrash() {
        JournaledTables x = new JournaledTables();
        x.crashAfter(0);
        x.format();
        x.begin();
        x.createTable(2);
        due.is("commit with the crash forgotten", x.commit(), 0);
        Due.cutPower(x);
        x.crashAfter(0);
        x.format();
        x.begin();
        x.createTable(3);
        due.is("commit with the crash set without power forgotten", x.commit(), 0);
    }

    private static void formatForgetsTheHead() {
        JournaledTables x = Due.open(3);
        x.commit();
        x.begin();
        x.createTable(4);
        x.crashAfter(2);
        due.is("commit fails behind the head", x.commit(), JournaledTables.DOWN);
        due.is("the head is there", x.peek(16, 0), 6517);
        x.format();
        int before = x.writes();
        due.is("recover finds no head", x.recover(), 0);
        due.is("recover wrote nothing", x.writes(), before);
        due.is("the tables do not come again", x.count(0), JournaledTables.NOTABLE);
    }
}
