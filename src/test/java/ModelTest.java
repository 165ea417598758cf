import java.util.Random;

/** Long runs of calls, the same at each time, whose answers must be those of the model. */
public final class ModelTest {
    private static final Due due = new Due();
    private static final int RUNS = 6000;
    /** 512 calls are promised: some calls take three at once, and 132 look at a quarter of the disk. */
    private static final int CALLS = 377;
    private static final int[] ODD = {Integer.MIN_VALUE, -1, 5, 6, 7, 8, 16, 33, Integer.MAX_VALUE};

    private final Random random;
    private final JournaledTables x = new JournaledTables();
    private final Model m = new Model();
    private final int keys;
    private final String run;
    private int calls = 0;

    private ModelTest(int seed) {
        random = new Random(seed);
        keys = seed % 3 == 0 ? 6 : seed % 3 == 1 ? 25 : 120;
        run = "run " + seed;
    }

    public static void main(String[] args) {
        for (int seed = 0; seed < RUNS; seed++) {
            ModelTest test = new ModelTest(seed);
            while (test.calls < CALLS) {
                test.someCalls();
            }
            test.lookAtTheDisk(seed % 4);
        }
        due.end();
    }

    private void someCalls() {
        int kind = random.nextInt(100);
        if (kind < 30) {
            rowCall();
        } else if (kind < 55) {
            changeCall();
        } else if (kind < 80) {
            readCall();
        } else {
            otherCall();
        }
    }

    private int below(int n) {
        return random.nextInt(12) == 0 && random.nextInt(4) == 0 ? ODD[random.nextInt(ODD.length)] : random.nextInt(n);
    }

    private int table() {
        return random.nextInt(3) == 0 ? below(5) : below(2);
    }

    private int key() {
        int key = random.nextInt(keys);
        return key == 0 ? Integer.MIN_VALUE : key == 1 ? Integer.MAX_VALUE : key - keys / 2;
    }

    private int word() {
        return random.nextInt(4) == 0 ? random.nextInt() : random.nextInt(9) - 4;
    }

    private void is(String call, long got, long want) {
        calls++;
        due.is(run + ", call " + calls + ": " + call, got, want);
    }

    private void rowCall() {
        if (random.nextInt(3) == 0) {
            int i = below(6);
            int w = word();
            is("stage", x.stage(i, w), m.stage(i, w));
        }
        int key = key();
        int t = table();
        is("stage", x.stage(0, key), m.stage(0, key));
        is("insert", x.insert(t), m.insert(t));
    }

    private void changeCall() {
        int t = table();
        int key = key();
        int kind = random.nextInt(40);
        if (kind < 18) {
            is("deleteKey", x.deleteKey(t, key), m.deleteKey(t, key));
        } else if (kind < 28) {
            int c = below(6);
            int w = word();
            is("updateCol", x.updateCol(t, key, c, w), m.updateCol(t, key, c, w));
        } else if (kind < 38) {
            int cols = below(7);
            is("createTable", x.createTable(cols), m.createTable(cols));
        } else if (kind == 38) {
            is("dropTable", x.dropTable(t), m.dropTable(t));
        }
    }

    private void readCall() {
        int t = table();
        int key = key();
        int c = below(5);
        int i = below(7);
        switch (random.nextInt(9)) {
            case 0 -> is("lookup", x.lookup(t, key, i), m.lookup(t, key, i));
            case 1 -> is("has", x.has(t, key) ? 1 : 0, m.has(t, key) ? 1 : 0);
            case 2 -> is("count", x.count(t), m.count(t));
            case 3 -> {
                int lo = random.nextBoolean() ? Integer.MIN_VALUE : word();
                int hi = random.nextBoolean() ? Integer.MAX_VALUE : word();
                is("openScan", x.openScan(t, i, lo, hi), m.openScan(t, i, lo, hi));
            }
            case 4 -> is("closeScan", x.closeScan(c), m.closeScan(c));
            default -> {
                is("next", x.next(c) ? 1 : 0, m.next(c) ? 1 : 0);
                is("col", x.col(c, i), m.col(c, i));
            }
        }
    }

    private void otherCall() {
        int kind = random.nextInt(40);
        if (kind < 13) {
            is("begin", x.begin(), m.begin());
        } else if (kind < 20) {
            is("commit", x.commit(), m.commit());
        } else if (kind < 22) {
            is("rollback", x.rollback(), m.rollback());
        } else if (kind < 24) {
            int n = random.nextInt(12) - 1;
            is("crashAfter", x.crashAfter(n), m.crashAfter(n));
        } else if (kind < 28) {
            is("recover", x.recover(), m.recover());
        } else if (kind == 28 && random.nextInt(6) == 0) {
            is("format", x.format(), m.format());
        } else if (kind < 32) {
            is("writes", x.writes(), m.writes());
        } else {
            int b = random.nextBoolean() ? 16 : below(33);
            int w = below(16);
            is("peek", x.peek(b, w), m.peek(b, w));
        }
    }

    private void lookAtTheDisk(int quarter) {
        for (int place = quarter; place < 33 * 16; place += 4) {
            is("peek at the end", x.peek(place / 16, place % 16), m.peek(place / 16, place % 16));
        }
    }
}
