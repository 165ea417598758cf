/** Promises 12 (lookup), 13 (has), 14 (count), 21 (peek) and 22 (writes). */
public final class ReadsTest {
    private static final Due due = new Due();

    public static void main(String[] args) {
        lookups();
        edgesOfKeys();
        counts();
        withoutPower();
        peeks();
        writesAreCounted();
        due.end();
    }

    private static void lookups() {
        JournaledTables x = Due.open(3);
        Due.put(x, 0, 5, 50, 500);
        x.commit();
        due.is("the key", x.lookup(0, 5, 0), 5);
        due.is("word 1", x.lookup(0, 5, 1), 50);
        due.is("word 2", x.lookup(0, 5, 2), 500);
        for (int col : new int[] {Integer.MIN_VALUE, -1, 3, 4, Integer.MAX_VALUE}) {
            due.is("lookup(0, 5, " + col + ")", x.lookup(0, 5, col), 0);
        }
        for (int t : new int[] {Integer.MIN_VALUE, -1, 1, 5, 8, Integer.MAX_VALUE}) {
            due.is("lookup(" + t + ", 5, 0)", x.lookup(t, 5, 0), 0);
            due.is("lookup(" + t + ", 0, 1)", x.lookup(t, 0, 1), 0);
            due.is("has(" + t + ", 5)", x.has(t, 5), false);
            due.is("has(" + t + ", 0)", x.has(t, 0), false);
        }
        due.is("a word that is no key", x.has(0, 50), false);
        due.is("lookup of no key", x.lookup(0, 50, 1), 0);
        due.is("has", x.has(0, 5), true);
        due.is("slots without a row have no key 0", x.has(0, 0), false);
    }

    private static void edgesOfKeys() {
        JournaledTables x = Due.open(2);
        int[] keys = {Integer.MAX_VALUE, 0, Integer.MIN_VALUE, -1};
        for (int key : keys) {
            due.is("insert", Due.put(x, 0, key, key ^ 1), 0);
        }
        for (int key : keys) {
            due.is("has", x.has(0, key), true);
            due.is("lookup", x.lookup(0, key, 1), key ^ 1);
            due.is("insert again", Due.put(x, 0, key, 3), JournaledTables.DUPKEY);
        }
        for (int key : new int[] {Integer.MAX_VALUE - 1, 1, -2, Integer.MIN_VALUE + 1}) {
            due.is("has not", x.has(0, key), false);
        }
    }

    private static void counts() {
        JournaledTables x = Due.open(6, 2);
        for (int key = 0; key < 9; key++) {
            due.is("count", x.count(0), key);
            x.stage(0, key);
            x.insert(0);
        }
        x.deleteKey(0, 4);
        due.is("count", x.count(0), 8);
        due.is("count of another table", x.count(1), 0);
        for (int t : new int[] {Integer.MIN_VALUE, -1, 2, 5, 8, Integer.MAX_VALUE}) {
            due.is("count(" + t + ")", x.count(t), JournaledTables.NOTABLE);
        }
        x.commit();
        due.is("count outside a transaction", x.count(0), 8);
    }

    private static void withoutPower() {
        JournaledTables x = Due.open(2);
        Due.put(x, 0, 1, 10);
        x.commit();
        Due.cutPower(x);
        due.is("lookup", x.lookup(0, 1, 1), 0);
        due.is("has", x.has(0, 1), false);
        due.is("count", x.count(0), JournaledTables.DOWN);
        due.is("count(9)", x.count(9), JournaledTables.DOWN);
        due.is("peek", x.peek(1, 4), 10);
        due.is("writes", x.writes(), 6);
        x.recover();
        due.is("lookup", x.lookup(0, 1, 1), 10);
        due.is("has", x.has(0, 1), true);
        due.is("count", x.count(0), 1);
    }

    private static void peeks() {
        JournaledTables x = Due.open(2);
        x.commit();
        due.is("peek(0, 0)", x.peek(0, 0), 2);
        due.is("peek(32, 15)", x.peek(32, 15), 0);
        for (int b : new int[] {Integer.MIN_VALUE, -1, 33, 268435456, Integer.MAX_VALUE}) {
            due.is("peek(" + b + ", 0)", x.peek(b, 0), JournaledTables.BADARG);
        }
        for (int w : new int[] {Integer.MIN_VALUE, -1, 16, Integer.MAX_VALUE}) {
            due.is("peek(0, " + w + ")", x.peek(0, w), JournaledTables.BADARG);
            due.is("peek(1, " + w + ")", x.peek(1, w), JournaledTables.BADARG);
            due.is("peek(32, " + w + ")", x.peek(32, w), JournaledTables.BADARG);
        }
    }

    private static void writesAreCounted() {
        JournaledTables x = Due.open(2);
        x.commit();
        due.is("a commit of one block", x.writes(), 4);
        x.begin();
        x.createTable(2);
        x.crashAfter(3);
        x.commit();
        due.is("the one that failed is none", x.writes(), 7);
        x.recover();
        due.is("those of recovering count", x.writes(), 9);
        x.recover();
        due.is("there was nothing to do", x.writes(), 9);
    }
}
