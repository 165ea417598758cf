import java.util.ArrayList;
import java.util.List;
import java.util.function.Supplier;
import java.util.function.ToIntFunction;

/** What "CODES" says: which code of several is answered, and that what is refused changes nothing. */
public final class RefusalsTest {
    private static final Due due = new Due();

    /** A call that is refused in some state, with the code that is due. */
    private record Refusal(String call, int code, ToIntFunction<JournaledTables> run) { }

    public static void main(String[] args) {
        constants();
        firstOfSeveral("outside a transaction", RefusalsTest::outside, ordersOutside());
        firstOfSeveral("in a transaction", RefusalsTest::inside, ordersInside());
        firstOfSeveral("without power", RefusalsTest::off, refusedOff());
        nothingChanges("outside a transaction", RefusalsTest::outside, refusedOutside());
        nothingChanges("in a transaction", RefusalsTest::inside, refusedInside());
        nothingChanges("without power", RefusalsTest::off, refusedOff());
        due.end();
    }

    private static void constants() {
        due.sentence("CODES: DOWN, NOTXN, NESTED, BADARG, NOTABLE, NOKEY, DUPKEY, NOROOM, BADCUR");
        int[] codes = {
            JournaledTables.DOWN, JournaledTables.NOTXN, JournaledTables.NESTED, JournaledTables.BADARG,
            JournaledTables.NOTABLE, JournaledTables.NOKEY, JournaledTables.DUPKEY, JournaledTables.NOROOM,
            JournaledTables.BADCUR,
        };
        for (int i = 0; i < codes.length; i++) {
            due.is("code " + i, codes[i], -1 - i);
        }
    }

    /**
     * There are five tables, and every page is a full one of table 0 (width 6, keys 1 .. 28) or of
     * table 1 (width 2, keys 1 .. 6). The staged row has the key 3.
     */
    private static JournaledTables crowded() {
        JournaledTables x = Due.open(6, 2, 3, 4, 5);
        for (int key = 1; key <= 28; key++) {
            Due.put(x, 0, key, 10 * key);
        }
        for (int key = 1; key <= 6; key++) {
            Due.put(x, 1, key);
        }
        for (int i = 0; i < 6; i++) {
            x.stage(i, 3 + i);
        }
        x.commit();
        return x;
    }

    /** No number of a scan is free; each is at another row. */
    private static void openScans(JournaledTables x) {
        for (int c = 0; c < 4; c++) {
            x.openScan(c % 2, 0, c, 20);
            for (int moves = 0; moves < c; moves++) {
                x.next(c);
            }
        }
    }

    private static JournaledTables outside() {
        JournaledTables x = crowded();
        openScans(x);
        x.crashAfter(3);
        return x;
    }

    /** Table 3 has another width than on disk, and a row another word. */
    private static JournaledTables inside() {
        JournaledTables x = crowded();
        x.begin();
        x.dropTable(3);
        x.createTable(5);
        x.updateCol(0, 28, 5, 9);
        openScans(x);
        x.crashAfter(3);
        return x;
    }

    /** The power failed behind the head, and is to fail once more. */
    private static JournaledTables off() {
        JournaledTables x = inside();
        x.commit();
        x.crashAfter(1);
        return x;
    }

    private static List<Refusal> ordersOutside() {
        List<Refusal> all = new ArrayList<>();
        add(all, "createTable: BADARG before NOTXN", JournaledTables.BADARG, x -> x.createTable(7));
        add(all, "createTable: NOTXN before NOROOM", JournaledTables.NOTXN, x -> x.createTable(6));
        add(all, "dropTable: NOTXN before NOTABLE", JournaledTables.NOTXN, x -> x.dropTable(5));
        add(all, "insert: NOTXN before NOTABLE", JournaledTables.NOTXN, x -> x.insert(5));
        add(all, "insert: NOTXN before DUPKEY", JournaledTables.NOTXN, x -> x.insert(0));
        add(all, "insert: NOTXN before NOROOM", JournaledTables.NOTXN, x -> x.insert(2));
        add(all, "deleteKey: NOTXN before NOTABLE", JournaledTables.NOTXN, x -> x.deleteKey(5, 1));
        add(all, "deleteKey: NOTXN before NOKEY", JournaledTables.NOTXN, x -> x.deleteKey(0, 99));
        add(all, "updateCol: NOTXN before NOTABLE", JournaledTables.NOTXN, x -> x.updateCol(5, 1, 1, 0));
        add(all, "updateCol: NOTXN before BADARG", JournaledTables.NOTXN, x -> x.updateCol(0, 1, 6, 0));
        add(all, "updateCol: NOTXN before NOKEY", JournaledTables.NOTXN, x -> x.updateCol(0, 99, 1, 0));
        add(all, "openScan: NOTABLE before BADARG", JournaledTables.NOTABLE, x -> x.openScan(5, 6, 0, 0));
        add(all, "openScan: NOTABLE before NOROOM", JournaledTables.NOTABLE, x -> x.openScan(5, 0, 0, 0));
        add(all, "openScan: BADARG before NOROOM", JournaledTables.BADARG, x -> x.openScan(0, 6, 0, 0));
        add(all, "openScan: NOROOM", JournaledTables.NOROOM, x -> x.openScan(0, 5, 0, 0));
        return all;
    }

    private static List<Refusal> ordersInside() {
        List<Refusal> all = new ArrayList<>();
        add(all, "createTable: BADARG before NOROOM", JournaledTables.BADARG, x -> x.createTable(7));
        add(all, "createTable: NOROOM", JournaledTables.NOROOM, x -> x.createTable(6));
        add(all, "insert: DUPKEY before NOROOM", JournaledTables.DUPKEY, x -> x.insert(0));
        add(all, "insert: NOROOM", JournaledTables.NOROOM, x -> x.insert(2));
        add(all, "deleteKey: NOTABLE before NOKEY", JournaledTables.NOTABLE, x -> x.deleteKey(5, 99));
        add(all, "updateCol: NOTABLE before BADARG", JournaledTables.NOTABLE, x -> x.updateCol(5, 1, 6, 0));
        add(all, "updateCol: NOTABLE before NOKEY", JournaledTables.NOTABLE, x -> x.updateCol(5, 99, 1, 0));
        add(all, "updateCol: BADARG before NOKEY", JournaledTables.BADARG, x -> x.updateCol(0, 99, 6, 0));
        return all;
    }

    private static List<Refusal> refusedOutside() {
        List<Refusal> all = ordersOutside();
        add(all, "dropTable(0)", JournaledTables.NOTXN, x -> x.dropTable(0));
        add(all, "commit()", JournaledTables.NOTXN, JournaledTables::commit);
        add(all, "rollback()", JournaledTables.NOTXN, JournaledTables::rollback);
        add(all, "deleteKey(0, 1)", JournaledTables.NOTXN, x -> x.deleteKey(0, 1));
        add(all, "updateCol(0, 1, 1, 7)", JournaledTables.NOTXN, x -> x.updateCol(0, 1, 1, 7));
        addRefusedAlways(all);
        return all;
    }

    private static List<Refusal> refusedInside() {
        List<Refusal> all = ordersInside();
        add(all, "begin()", JournaledTables.NESTED, JournaledTables::begin);
        add(all, "createTable(1)", JournaledTables.BADARG, x -> x.createTable(1));
        add(all, "dropTable(-1)", JournaledTables.NOTABLE, x -> x.dropTable(-1));
        add(all, "dropTable(5)", JournaledTables.NOTABLE, x -> x.dropTable(5));
        add(all, "insert(-1)", JournaledTables.NOTABLE, x -> x.insert(-1));
        add(all, "insert(5)", JournaledTables.NOTABLE, x -> x.insert(5));
        add(all, "insert(3)", JournaledTables.NOROOM, x -> x.insert(3));
        add(all, "deleteKey(0, 0)", JournaledTables.NOKEY, x -> x.deleteKey(0, 0));
        add(all, "deleteKey(0, 29)", JournaledTables.NOKEY, x -> x.deleteKey(0, 29));
        add(all, "deleteKey(4, 1)", JournaledTables.NOKEY, x -> x.deleteKey(4, 1));
        add(all, "updateCol(0, 1, 0, 7)", JournaledTables.BADARG, x -> x.updateCol(0, 1, 0, 7));
        add(all, "updateCol(0, 1, 6, 7)", JournaledTables.BADARG, x -> x.updateCol(0, 1, 6, 7));
        add(all, "updateCol(0, 29, 1, 7)", JournaledTables.NOKEY, x -> x.updateCol(0, 29, 1, 7));
        addRefusedAlways(all);
        return all;
    }

    private static void addRefusedAlways(List<Refusal> all) {
        add(all, "stage(-1, 7)", JournaledTables.BADARG, x -> x.stage(-1, 7));
        add(all, "stage(6, 7)", JournaledTables.BADARG, x -> x.stage(6, 7));
        add(all, "count(-1)", JournaledTables.NOTABLE, x -> x.count(-1));
        add(all, "count(5)", JournaledTables.NOTABLE, x -> x.count(5));
        add(all, "openScan(-1, 0, 0, 9)", JournaledTables.NOTABLE, x -> x.openScan(-1, 0, 0, 9));
        add(all, "openScan(0, -1, 0, 9)", JournaledTables.BADARG, x -> x.openScan(0, -1, 0, 9));
        add(all, "openScan(0, 0, 0, 9)", JournaledTables.NOROOM, x -> x.openScan(0, 0, 0, 9));
        add(all, "closeScan(-1)", JournaledTables.BADCUR, x -> x.closeScan(-1));
        add(all, "closeScan(4)", JournaledTables.BADCUR, x -> x.closeScan(4));
        add(all, "next(-1)", 0, x -> x.next(-1) ? 1 : 0);
        add(all, "next(4)", 0, x -> x.next(4) ? 1 : 0);
        add(all, "col(3, 2)", 0, x -> x.col(3, 2));
        add(all, "lookup(0, 99, 1)", 0, x -> x.lookup(0, 99, 1));
        addRefusedEverywhere(all);
    }

    private static void addRefusedEverywhere(List<Refusal> all) {
        add(all, "crashAfter(-1)", JournaledTables.BADARG, x -> x.crashAfter(-1));
        add(all, "peek(-1, 0)", JournaledTables.BADARG, x -> x.peek(-1, 0));
        add(all, "peek(33, 0)", JournaledTables.BADARG, x -> x.peek(33, 0));
        add(all, "peek(0, 16)", JournaledTables.BADARG, x -> x.peek(0, 16));
    }

    /** Each call, once with what would be right with power, and once with what would be wrong. */
    private static List<Refusal> refusedOff() {
        List<Refusal> all = new ArrayList<>();
        add(all, "createTable(2)", JournaledTables.DOWN, x -> x.createTable(2));
        add(all, "createTable(7)", JournaledTables.DOWN, x -> x.createTable(7));
        add(all, "dropTable(0)", JournaledTables.DOWN, x -> x.dropTable(0));
        add(all, "dropTable(5)", JournaledTables.DOWN, x -> x.dropTable(5));
        add(all, "begin()", JournaledTables.DOWN, JournaledTables::begin);
        add(all, "commit()", JournaledTables.DOWN, JournaledTables::commit);
        add(all, "rollback()", JournaledTables.DOWN, JournaledTables::rollback);
        add(all, "stage(0, 7)", JournaledTables.DOWN, x -> x.stage(0, 7));
        add(all, "stage(6, 7)", JournaledTables.DOWN, x -> x.stage(6, 7));
        add(all, "insert(0)", JournaledTables.DOWN, x -> x.insert(0));
        add(all, "insert(2)", JournaledTables.DOWN, x -> x.insert(2));
        add(all, "insert(5)", JournaledTables.DOWN, x -> x.insert(5));
        add(all, "deleteKey(0, 1)", JournaledTables.DOWN, x -> x.deleteKey(0, 1));
        add(all, "deleteKey(5, 1)", JournaledTables.DOWN, x -> x.deleteKey(5, 1));
        add(all, "updateCol(0, 1, 1, 7)", JournaledTables.DOWN, x -> x.updateCol(0, 1, 1, 7));
        add(all, "updateCol(0, 1, 0, 7)", JournaledTables.DOWN, x -> x.updateCol(0, 1, 0, 7));
        add(all, "lookup(0, 1, 1)", 0, x -> x.lookup(0, 1, 1));
        add(all, "has(0, 1)", 0, x -> x.has(0, 1) ? 1 : 0);
        add(all, "count(0)", JournaledTables.DOWN, x -> x.count(0));
        add(all, "count(5)", JournaledTables.DOWN, x -> x.count(5));
        add(all, "openScan(0, 0, 0, 9)", JournaledTables.DOWN, x -> x.openScan(0, 0, 0, 9));
        add(all, "openScan(5, 0, 0, 9)", JournaledTables.DOWN, x -> x.openScan(5, 0, 0, 9));
        add(all, "openScan(0, 6, 0, 9)", JournaledTables.DOWN, x -> x.openScan(0, 6, 0, 9));
        add(all, "next(0)", 0, x -> x.next(0) ? 1 : 0);
        add(all, "col(3, 0)", 0, x -> x.col(3, 0));
        add(all, "closeScan(0)", JournaledTables.DOWN, x -> x.closeScan(0));
        add(all, "closeScan(4)", JournaledTables.DOWN, x -> x.closeScan(4));
        addRefusedEverywhere(all);
        return all;
    }

    private static void add(List<Refusal> all, String call, int code, ToIntFunction<JournaledTables> run) {
        all.add(new Refusal(call, code, run));
    }

    private static void firstOfSeveral(String state, Supplier<JournaledTables> make, List<Refusal> refusals) {
        due.sentence("where several fit that a call names, the one that the call names first.");
        for (Refusal refusal : refusals) {
            due.is(state + ": " + refusal.call, refusal.run.applyAsInt(make.get()), refusal.code);
        }
    }

    private static void nothingChanges(String state, Supplier<JournaledTables> make, List<Refusal> refusals) {
        due.sentence("What is refused changes nothing.");
        for (int way = 0; way < 6; way++) {
            List<Integer> want = look(way, make.get());
            for (Refusal refusal : refusals) {
                JournaledTables x = make.get();
                due.is(state + ": " + refusal.call, refusal.run.applyAsInt(x), refusal.code);
                List<Integer> got = look(way, x);
                due.is("behind " + refusal.call + " " + state + ": all that way " + way + " shows", got.equals(want), true);
            }
        }
    }

    /** One object has too few calls to show all of itself, and some ways to look at it change it. */
    private static List<Integer> look(int way, JournaledTables x) {
        List<Integer> seen = new ArrayList<>();
        switch (way) {
            case 0 -> lookAtScans(seen, x);
            case 1 -> lookAtBlocks(seen, x, 0, 16);
            case 2 -> lookAtBlocks(seen, x, 16, 33);
            case 3 -> {
                seen.add(x.commit());
                lookAtBlocks(seen, x, 0, 16);
            }
            case 4 -> {
                seen.add(x.begin());
                lookAtRows(seen, x);
            }
            default -> {
                seen.add(x.recover());
                seen.add(x.recover());
                lookAtRows(seen, x);
            }
        }
        return seen;
    }

    private static void lookAtScans(List<Integer> seen, JournaledTables x) {
        for (int c = 0; c < 4; c++) {
            do {
                seen.add(x.col(c, 0));
                seen.add(x.col(c, 1));
            } while (x.next(c));
            seen.add(x.closeScan(c));
        }
    }

    private static void lookAtBlocks(List<Integer> seen, JournaledTables x, int from, int to) {
        seen.add(x.writes());
        for (int b = from; b < to; b++) {
            for (int w = 0; w < 16; w++) {
                seen.add(x.peek(b, w));
            }
        }
    }

    /** The rows, the staged row that is put among them, and when the crash that is set happens. */
    private static void lookAtRows(List<Integer> seen, JournaledTables x) {
        for (int t = 0; t < 5; t++) {
            seen.add(x.count(t));
        }
        for (int key = 0; key < 30; key++) {
            seen.add(x.lookup(0, key, 1) + x.lookup(0, key, 5));
            seen.add(x.lookup(1, key, 0));
        }
        seen.add(x.begin());
        seen.add(x.dropTable(1));
        seen.add(x.deleteKey(0, 3));
        seen.add(x.insert(0));
        for (int i = 0; i < 6; i++) {
            seen.add(x.lookup(0, 3, i));
        }
        seen.add(x.commit());
        seen.add(x.writes());
    }
}
