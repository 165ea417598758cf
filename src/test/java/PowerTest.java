/** Promises 19 (crashAfter) and 20 (recover). */
public final class PowerTest {
    private static final Due due = new Due();
    /** The writes of the commit of change(): three images, the head, three blocks, the head. */
    private static final int WRITES = 8;

    public static void main(String[] args) {
        crashRefuses();
        crashReplaces();
        crashIsUsedUp();
        crashStaysSet();
        crashAtEveryWrite();
        crashInRecoveringToo();
        recoverWithThePowerOn();
        due.end();
    }

    private static JournaledTables before() {
        JournaledTables x = Due.open(3, 2);
        Due.put(x, 0, 1, 10, 100);
        Due.put(x, 0, 2, 20, 200);
        Due.put(x, 1, 7, 70);
        x.commit();
        return x;
    }

    private static void change(JournaledTables x) {
        x.begin();
        x.updateCol(0, 2, 1, 21);
        x.dropTable(1);
    }

    private static void isBefore(String when, JournaledTables x) {
        due.block(when, x, 0, 3, 2, 0, 0, 0, 0, 0, 0, 1, 2);
        due.block(when, x, 1, 1, 0, 3, 1, 10, 100, 2, 20, 200);
        due.block(when, x, 2, 2, 0, 1, 7, 70);
        due.block(when, x, 16);
        due.is(when + ": lookup", x.lookup(0, 2, 1), 20);
        due.is(when + ": count", x.count(1), 1);
        due.is(when + ": commit", x.commit(), JournaledTables.NOTXN);
    }

    private static void isAfter(String when, JournaledTables x) {
        due.block(when, x, 0, 3, 0, 0, 0, 0, 0, 0, 0, 1);
        due.block(when, x, 1, 1, 0, 3, 1, 10, 100, 2, 21, 200);
        due.block(when, x, 2);
        due.block(when, x, 16);
        due.is(when + ": lookup", x.lookup(0, 2, 1), 21);
        due.is(when + ": count", x.count(1), JournaledTables.NOTABLE);
        due.is(when + ": commit", x.commit(), JournaledTables.NOTXN);
    }

    private static void crashRefuses() {
        JournaledTables x = before();
        due.is("crashAfter(-1)", x.crashAfter(-1), JournaledTables.BADARG);
        due.is("crashAfter of the least", x.crashAfter(Integer.MIN_VALUE), JournaledTables.BADARG);
        change(x);
        due.is("nothing was set", x.commit(), 0);
        due.is("crashAfter of the most", x.crashAfter(Integer.MAX_VALUE), 0);
        due.is("crashAfter(0)", x.crashAfter(0), 0);
        due.is("crashAfter(-1)", x.crashAfter(-1), JournaledTables.BADARG);
        x.begin();
        x.dropTable(0);
        due.is("the one that was set stays", x.commit(), JournaledTables.DOWN);
        due.is("crashAfter(-1) without power", x.crashAfter(-1), JournaledTables.BADARG);
        due.is("crashAfter(0) without power", x.crashAfter(0), 0);
    }

    private static void crashReplaces() {
        JournaledTables x = before();
        x.crashAfter(0);
        x.crashAfter(WRITES);
        change(x);
        due.is("the later one counts", x.commit(), 0);
        x.crashAfter(1);
        x.begin();
        x.createTable(2);
        due.is("a crash in the next", x.commit(), JournaledTables.DOWN);
        due.is("writes", x.writes(), 8 + WRITES + 1);
    }

    private static void crashIsUsedUp() {
        JournaledTables x = before();
        x.crashAfter(0);
        change(x);
        due.is("commit", x.commit(), JournaledTables.DOWN);
        due.is("recover", x.recover(), 0);
        change(x);
        due.is("nothing is set any more", x.commit(), 0);
        isAfter("after the second commit", x);
    }

    private static void crashStaysSet() {
        JournaledTables x = before();
        x.crashAfter(WRITES + 1);
        due.is("recover with nothing to do", x.recover(), 0);
        x.begin();
        due.is("commit of nothing", x.commit(), 0);
        x.begin();
        due.is("rollback", x.rollback(), 0);
        change(x);
        due.is("commit", x.commit(), 0);
        x.begin();
        x.createTable(2);
        due.is("one write was left", x.commit(), JournaledTables.DOWN);
        due.is("writes", x.writes(), 8 + WRITES + 1);
    }

    private static void crashAtEveryWrite() {
        for (int n = 0; n <= WRITES; n++) {
            String when = "crash after " + n;
            JournaledTables x = before();
            change(x);
            x.crashAfter(n);
            due.is(when + ": commit", x.commit(), n < WRITES ? JournaledTables.DOWN : 0);
            due.is(when + ": writes", x.writes(), 8 + n);
            due.is(when + ": begin", x.begin(), n < WRITES ? JournaledTables.DOWN : 0);
            due.is(when + ": head", x.peek(16, 0), n >= 4 && n < WRITES ? 6517 : 0);
            due.is(when + ": recover", x.recover(), 0);
            due.is(when + ": writes", x.writes(), 8 + n + (n >= 4 && n < WRITES ? 4 : 0));
            if (n < WRITES) {
                isBefore(when, x);
            } else {
                isAfter(when, x);
            }
        }
    }

    private static void crashInRecoveringToo() {
        for (int n = 4; n < WRITES; n++) {
            for (int m = 0; m < 4; m++) {
                String when = "crash after " + n + " and " + m;
                JournaledTables x = before();
                change(x);
                x.crashAfter(n);
                x.commit();
                due.is(when + ": crashAfter", x.crashAfter(m), 0);
                due.is(when + ": begin", x.begin(), JournaledTables.DOWN);
                due.is(when + ": recover", x.recover(), JournaledTables.DOWN);
                due.is(when + ": count", x.count(0), JournaledTables.DOWN);
                due.is(when + ": writes", x.writes(), 8 + n + m);
                due.is(when + ": head", x.peek(16, 1), 3);
                due.is(when + ": recover again", x.recover(), 0);
                due.is(when + ": writes", x.writes(), 8 + n + m + 4);
                isBefore(when, x);
                change(x);
                due.is(when + ": commit", x.commit(), 0);
                isAfter(when, x);
            }
        }
    }

    private static void recoverWithThePowerOn() {
        JournaledTables x = before();
        change(x);
        due.is("recover in a transaction", x.recover(), 0);
        isBefore("recovered", x);
        due.is("no write", x.writes(), 8);
        due.is("begin", x.begin(), 0);
    }
}
