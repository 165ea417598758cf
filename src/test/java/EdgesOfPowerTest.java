/** The boundaries in the sentences about the power: those of "Terms", and promises 19 to 22. */
public final class EdgesOfPowerTest {
    private static final Due due = new Due();

    public static void main(String[] args) {
        allOrNothing();
        writesMore();
        nothingSetAnyMore();
        callsWithoutPower();
        callsThatNeedNone();
        recoveringTurnsOn();
        recoveringWithoutAHead();
        recoveringOneBlock();
        recoveringSixteenBlocks();
        recoveringEndsAll();
        crashInPlaceOfAnother();
        crashBelowNone();
        recoverAnswers();
        peekOfNone();
        writesInAll();
        due.end();
    }

    /** A commit of all sixteen blocks has 34 writes: 16 images, the head, 16 blocks, the head. */
    private static void allOrNothing() {
        due.sentence("a failure of the power at any write leaves, after recovery, all of it or nothing.");
        for (int n = 0; n <= 34; n++) {
            JournaledTables x = Due.full(6);
            x.commit();
            x.begin();
            x.dropTable(0);
            x.crashAfter(n);
            String when = n + " writes of 34: ";
            due.is(when + "commit", x.commit(), n < 34 ? JournaledTables.DOWN : 0);
            due.is(when + "recover", x.recover(), 0);
            boolean undone = n >= 17 && n < 34;
            due.is(when + "writes", x.writes(), 34 + n + (undone ? 17 : 0));
            due.is(when + "count", x.count(0), n < 34 ? 30 : JournaledTables.NOTABLE);
            due.is(when + "lookup", x.lookup(0, 29, 5), n < 34 ? 5029 : 0);
            for (int b = 0; b < 16; b++) {
                due.is(when + "block " + b, x.peek(b, 0), n == 34 ? 0 : b == 0 ? 6 : 1);
            }
            due.block(when + "head", x, 16);
        }
    }

    private static void writesMore() {
        due.sentence("POWER: crashAfter(n) lets n writes more be done; the one after those is not, "
                + "and the power is OFF from there on (nothing is set any more); the call in which that happens "
                + "answers DOWN.");
        for (int n = 0; n <= 5; n++) {
            JournaledTables x = Due.open(2);
            x.crashAfter(n);
            due.is("commit of four writes, crash after " + n, x.commit(), n < 4 ? JournaledTables.DOWN : 0);
            due.is("writes", x.writes(), n < 4 ? n : 4);
            due.is("begin", x.begin(), n < 4 ? JournaledTables.DOWN : 0);
            due.is("createTable", x.createTable(2), n < 4 ? JournaledTables.DOWN : 1);
            due.is("the next commit", x.commit(), JournaledTables.DOWN);
            due.is("writes", x.writes(), n);
        }
    }

    private static void nothingSetAnyMore() {
        due.sentence("(nothing is set any more)");
        JournaledTables x = Due.open(2);
        x.crashAfter(0);
        due.is("commit", x.commit(), JournaledTables.DOWN);
        due.is("recover", x.recover(), 0);
        for (int t = 0; t < 5; t++) {
            x.begin();
            due.is("createTable", x.createTable(2), t);
            due.is("commit", x.commit(), 0);
        }
        due.is("writes", x.writes(), 20);
    }

    private static JournaledTables oneRow() {
        JournaledTables x = Due.open(2);
        Due.put(x, 0, 1, 10);
        x.commit();
        x.openScan(0, 0, 0, 9);
        x.next(0);
        x.begin();
        return x;
    }

    private static void callsWithoutPower() {
        due.sentence("While it is off, calls answer DOWN (false or 0 those that answer no code)");
        JournaledTables x = oneRow();
        due.is("lookup with power", x.lookup(0, 1, 1), 10);
        due.is("has with power", x.has(0, 1), true);
        due.is("col with power", x.col(0, 1), 10);
        due.is("count with power", x.count(0), 1);
        Due.cutPower(x);
        due.is("createTable", x.createTable(2), JournaledTables.DOWN);
        due.is("dropTable", x.dropTable(0), JournaledTables.DOWN);
        due.is("begin", x.begin(), JournaledTables.DOWN);
        due.is("commit", x.commit(), JournaledTables.DOWN);
        due.is("rollback", x.rollback(), JournaledTables.DOWN);
        due.is("stage", x.stage(0, 5), JournaledTables.DOWN);
        due.is("insert", x.insert(0), JournaledTables.DOWN);
        due.is("deleteKey", x.deleteKey(0, 1), JournaledTables.DOWN);
        due.is("updateCol", x.updateCol(0, 1, 1, 5), JournaledTables.DOWN);
        due.is("count", x.count(0), JournaledTables.DOWN);
        due.is("openScan", x.openScan(0, 0, 0, 9), JournaledTables.DOWN);
        due.is("closeScan", x.closeScan(0), JournaledTables.DOWN);
        due.is("lookup", x.lookup(0, 1, 1), 0);
        due.is("col", x.col(0, 1), 0);
        due.is("has", x.has(0, 1), false);
        due.is("next", x.next(0), false);
    }

    private static void callsThatNeedNone() {
        due.sentence("but for format, crashAfter, recover, peek and writes.");
        JournaledTables x = oneRow();
        Due.cutPower(x);
        due.is("peek", x.peek(1, 4), 10);
        due.is("peek of none", x.peek(33, 0), JournaledTables.BADARG);
        due.is("writes", x.writes(), 6);
        due.is("crashAfter", x.crashAfter(1), 0);
        due.is("crashAfter of none", x.crashAfter(-1), JournaledTables.BADARG);
        due.is("it is still off", x.begin(), JournaledTables.DOWN);
        due.is("recover", x.recover(), 0);
        due.is("it is on", x.count(0), 1);
        x.begin();
        x.createTable(2);
        due.is("the crash that was set without power", x.commit(), JournaledTables.DOWN);
        due.is("format", x.format(), 0);
        due.is("it is on", x.count(0), JournaledTables.NOTABLE);
    }

    private static void recoveringTurnsOn() {
        due.sentence("RECOVERING, the power is on.");
        JournaledTables x = oneRow();
        due.is("recover with the power on", x.recover(), 0);
        due.is("begin", x.begin(), 0);
        Due.cutPower(x);
        due.is("begin without power", x.begin(), JournaledTables.DOWN);
        due.is("recover with the power off", x.recover(), 0);
        due.is("begin with power", x.begin(), 0);
    }

    private static void recoveringWithoutAHead() {
        due.sentence("If the head on disk is one of n blocks, 1 .. 16");
        JournaledTables x = Due.open(2);
        Due.put(x, 0, 1, 10);
        x.crashAfter(2);
        due.is("commit fails at the head", x.commit(), JournaledTables.DOWN);
        due.block("no head", x, 16);
        due.is("writes", x.writes(), 2);
        x.crashAfter(0);
        due.is("recover without a write", x.recover(), 0);
        due.is("writes", x.writes(), 2);
        due.is("no table", x.count(0), JournaledTables.NOTABLE);
    }

    /** A commit of block 1: its image, the head, itself, the head. */
    private static JournaledTables cutOffAtOneBlock(int n) {
        JournaledTables x = oneRow();
        x.updateCol(0, 1, 1, 11);
        x.crashAfter(n);
        due.is("commit", x.commit(), JournaledTables.DOWN);
        due.is("n", x.peek(16, 1), n < 2 ? 0 : 1);
        due.is("the word", x.peek(1, 4), n < 3 ? 10 : 11);
        return x;
    }

    private static void recoveringOneBlock() {
        due.sentence("those blocks are written again from the images, ascending, and the head is written, all 0.");
        for (int n = 1; n <= 3; n++) {
            JournaledTables x = cutOffAtOneBlock(n);
            due.is("recover", x.recover(), 0);
            due.is("writes", x.writes(), 6 + n + (n < 2 ? 0 : 2));
            due.block("the old block", x, 1, 1, 0, 1, 1, 10);
            due.block("the head", x, 16);
            due.is("lookup", x.lookup(0, 1, 1), 10);
        }
        JournaledTables x = cutOffAtOneBlock(3);
        x.crashAfter(1);
        due.is("recover fails at the head", x.recover(), JournaledTables.DOWN);
        due.is("the block is written", x.peek(1, 4), 10);
        due.is("the head is not", x.peek(16, 1), 1);
        x.crashAfter(0);
        due.is("recover fails at the block", x.recover(), JournaledTables.DOWN);
        x.crashAfter(2);
        due.is("recover has its two writes", x.recover(), 0);
        due.is("writes", x.writes(), 6 + 3 + 1 + 2);
    }

    private static void recoveringSixteenBlocks() {
        due.sentence("those blocks are written again from the images, ascending, and the head is written, all 0.");
        for (int m : new int[] {0, 1, 15, 16, 17}) {
            JournaledTables x = Due.full(6);
            x.commit();
            x.begin();
            x.dropTable(0);
            x.crashAfter(33);
            due.is("commit fails at the last write", x.commit(), JournaledTables.DOWN);
            due.is("the last page is free", x.peek(15, 0), 0);
            x.crashAfter(m);
            String when = m + " writes of 17: ";
            due.is(when + "recover", x.recover(), m < 17 ? JournaledTables.DOWN : 0);
            for (int b = 0; b < 16; b++) {
                due.is(when + "block " + b, x.peek(b, 0), b >= m ? 0 : b == 0 ? 6 : 1);
            }
            due.is(when + "head", x.peek(16, 1), m < 17 ? 16 : 0);
            due.is(when + "writes", x.writes(), 34 + 33 + m);
            x.crashAfter(100);
            due.is(when + "recover again", x.recover(), 0);
            due.is(when + "count", x.count(0), 30);
            due.is(when + "writes", x.writes(), 34 + 33 + m + (m < 17 ? 17 : 0));
        }
    }

    private static void recoveringEndsAll() {
        due.sentence("Then the memory is the disk, no transaction is open, and no scan.");
        JournaledTables x = oneRow();
        for (int c = 1; c < 4; c++) {
            x.openScan(0, 0, 0, 9);
        }
        x.updateCol(0, 1, 1, 11);
        due.is("recover in a transaction", x.recover(), 0);
        due.is("the memory is the disk", x.lookup(0, 1, 1), 10);
        due.is("no transaction", x.commit(), JournaledTables.NOTXN);
        for (int c = 0; c < 4; c++) {
            due.is("no scan " + c, x.closeScan(c), JournaledTables.BADCUR);
        }
        due.is("openScan", x.openScan(0, 0, 0, 9), 0);
        due.is("recover outside a transaction", x.recover(), 0);
        due.is("no scan", x.next(0), false);
        due.is("no write", x.writes(), 6);
    }

    private static void crashInPlaceOfAnother() {
        due.sentence("Sets a crash, in place of one that is set; answers 0.");
        JournaledTables x = Due.open(2);
        due.is("crashAfter(0)", x.crashAfter(0), 0);
        due.is("a later one", x.crashAfter(4), 0);
        due.is("commit of four writes", x.commit(), 0);
        x.begin();
        x.createTable(2);
        due.is("a later one", x.crashAfter(100), 0);
        due.is("an earlier one", x.crashAfter(3), 0);
        due.is("commit of four writes", x.commit(), JournaledTables.DOWN);
        due.is("the most", x.crashAfter(Integer.MAX_VALUE), 0);
        due.is("recover", x.recover(), 0);
        x.begin();
        x.createTable(2);
        due.is("commit", x.commit(), 0);
    }

    private static void crashBelowNone() {
        due.sentence("BADARG when n is less than 0.");
        JournaledTables x = Due.open(2);
        due.is("crashAfter(-1)", x.crashAfter(-1), JournaledTables.BADARG);
        due.is("crashAfter of the least", x.crashAfter(Integer.MIN_VALUE), JournaledTables.BADARG);
        due.is("none was set", x.commit(), 0);
        x.begin();
        x.createTable(2);
        due.is("crashAfter(0)", x.crashAfter(0), 0);
        due.is("crashAfter(-1)", x.crashAfter(-1), JournaledTables.BADARG);
        due.is("the one that was set stays", x.commit(), JournaledTables.DOWN);
        due.is("no write", x.writes(), 4);
    }

    private static void recoverAnswers() {
        due.sentence("Recovers; answers 0. DOWN when the power fails in it.");
        for (int m = 0; m <= 2; m++) {
            JournaledTables x = cutOffAtOneBlock(2);
            x.crashAfter(m);
            due.is("recover of two writes, crash after " + m, x.recover(), m < 2 ? JournaledTables.DOWN : 0);
            due.is("count", x.count(0), m < 2 ? JournaledTables.DOWN : 1);
            due.is("recover again", x.recover(), 0);
            due.is("count", x.count(0), 1);
        }
    }

    private static void peekOfNone() {
        due.sentence("Word w of block b on the disk; BADARG when there is none.");
        JournaledTables x = oneRow();
        x.updateCol(0, 1, 1, 11);
        due.is("the disk, not the memory", x.peek(1, 4), 10);
        int[][] none = {
            {-1, 0}, {33, 0}, {0, -1}, {0, 16}, {32, 16}, {32, -1}, {-1, 16}, {33, -1}, {1, -1}, {1, 16},
            {Integer.MIN_VALUE, 0}, {Integer.MAX_VALUE, 0}, {0, Integer.MIN_VALUE}, {0, Integer.MAX_VALUE},
        };
        for (int[] bw : none) {
            due.is("peek(" + bw[0] + ", " + bw[1] + ")", x.peek(bw[0], bw[1]), JournaledTables.BADARG);
        }
        due.is("peek(0, 0)", x.peek(0, 0), 2);
        due.is("peek(0, 15)", x.peek(0, 15), 0);
        due.is("peek(32, 0)", x.peek(32, 0), 0);
        due.is("peek(32, 15)", x.peek(32, 15), 0);
        x.updateCol(0, 1, 1, JournaledTables.BADARG);
        x.commit();
        due.is("a word that looks like a code", x.peek(1, 4), JournaledTables.BADARG);
    }

    private static void writesInAll() {
        due.sentence("How many writes were done in all.");
        JournaledTables x = Due.open(2);
        due.is("none", x.writes(), 0);
        x.crashAfter(1);
        x.commit();
        due.is("one, the second was not done", x.writes(), 1);
        x.recover();
        due.is("one", x.writes(), 1);
        x.format();
        due.is("format has none", x.writes(), 1);
        x.begin();
        x.createTable(2);
        x.rollback();
        due.is("rollback has none", x.writes(), 1);
        x.begin();
        x.createTable(2);
        x.commit();
        due.is("four more", x.writes(), 5);
        Due.cutPower(x);
        due.is("without power", x.writes(), 5);
    }
}
