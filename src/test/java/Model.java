import java.util.ArrayList;
import java.util.Arrays;
import java.util.List;
import java.util.TreeMap;

/**
 * The document once more, held in another way: tables as lists of pages, pages as maps from slots
 * to rows, scans as lists of the rows they go over. Blocks are drawn from these only when asked.
 */
final class Model {
    private static final class Page {
        final int number;
        final TreeMap<Integer, int[]> slots = new TreeMap<>();

        Page(int number) {
            this.number = number;
        }
    }

    private static final class Table {
        final int width;
        final List<Page> pages = new ArrayList<>();

        Table(int width) {
            this.width = width;
        }

        int slotsOfAPage() {
            return 13 / width;
        }

        TreeMap<Integer, int[]> byKey() {
            TreeMap<Integer, int[]> rows = new TreeMap<>();
            for (Page p : pages) {
                for (int[] row : p.slots.values()) {
                    rows.put(row[0], row);
                }
            }
            return rows;
        }
    }

    private static final class Cursor {
        final Table table;
        final List<int[]> rows = new ArrayList<>();
        int at = -1;
        boolean isVoid = false;

        Cursor(Table table) {
            this.table = table;
        }
    }

    private static final class PowerFailure extends Exception {
        private static final long serialVersionUID = 1L;
    }

    private int[][] disk = new int[33][16];
    private Table[] tables = new Table[5];
    private final Cursor[] cursors = new Cursor[4];
    private final int[] staged = new int[6];
    private boolean on = true;
    private boolean inTransaction = false;
    private Integer crash = null;
    private int writes = 0;

    int format() {
        disk = new int[33][16];
        crash = null;
        on = true;
        restart();
        return 0;
    }

    int createTable(int cols) {
        if (!on) return -1;
        if (cols < 2 || cols > 6) return -4;
        if (!inTransaction) return -2;
        int t = Arrays.asList(tables).indexOf(null);
        if (t < 0) return -8;
        tables[t] = new Table(cols);
        return t;
    }

    int dropTable(int t) {
        int code = mayChange(t);
        if (code != 0) return code;
        touch(tables[t]);
        tables[t] = null;
        return 0;
    }

    int begin() {
        if (!on) return -1;
        if (inTransaction) return -3;
        inTransaction = true;
        return 0;
    }

    int commit() {
        if (!on) return -1;
        if (!inTransaction) return -2;
        try {
            writeOut();
        } catch (PowerFailure e) {
            return -1;
        }
        inTransaction = false;
        return 0;
    }

    int rollback() {
        if (!on) return -1;
        if (!inTransaction) return -2;
        tables = parse();
        inTransaction = false;
        for (Cursor c : cursors) {
            if (c != null) c.isVoid = true;
        }
        return 0;
    }

    int stage(int i, int word) {
        if (!on) return -1;
        if (i < 0 || i > 5) return -4;
        staged[i] = word;
        return 0;
    }

    int insert(int t) {
        int code = mayChange(t);
        if (code != 0) return code;
        Table table = tables[t];
        if (table.byKey().containsKey(staged[0])) return -7;
        Page into = null;
        for (Page p : table.pages) {
            if (into == null && p.slots.size() < table.slotsOfAPage()) into = p;
        }
        if (into == null) {
            int number = lowestFreePage();
            if (number == 0) return -8;
            into = new Page(number);
            table.pages.add(into);
        }
        int s = 0;
        while (into.slots.containsKey(s)) s++;
        into.slots.put(s, Arrays.copyOf(staged, table.width));
        touch(table);
        return 0;
    }

    int deleteKey(int t, int key) {
        int code = mayChange(t);
        if (code != 0) return code;
        if (!tables[t].byKey().containsKey(key)) return -6;
        for (Page p : tables[t].pages) {
            p.slots.values().removeIf(row -> row[0] == key);
        }
        tables[t].pages.removeIf(p -> p.slots.isEmpty());
        touch(tables[t]);
        return 0;
    }

    int updateCol(int t, int key, int col, int word) {
        int code = mayChange(t);
        if (code != 0) return code;
        if (col < 1 || col >= tables[t].width) return -4;
        int[] row = tables[t].byKey().get(key);
        if (row == null) return -6;
        row[col] = word;
        touch(tables[t]);
        return 0;
    }

    int lookup(int t, int key, int col) {
        if (!has(t, key) || col < 0 || col >= tables[t].width) return 0;
        return tables[t].byKey().get(key)[col];
    }

    boolean has(int t, int key) {
        return on && isTable(t) && tables[t].byKey().containsKey(key);
    }

    int count(int t) {
        return !on ? -1 : isTable(t) ? tables[t].byKey().size() : -5;
    }

    int openScan(int t, int col, int lo, int hi) {
        if (!on) return -1;
        if (!isTable(t)) return -5;
        if (col < 0 || col >= tables[t].width) return -4;
        int number = Arrays.asList(cursors).indexOf(null);
        if (number < 0) return -8;
        Cursor c = new Cursor(tables[t]);
        for (int[] row : tables[t].byKey().values()) {
            if (lo <= row[col] && row[col] <= hi) c.rows.add(row.clone());
        }
        cursors[number] = c;
        return number;
    }

    boolean next(int c) {
        if (!on || !isScan(c) || cursors[c].isVoid) return false;
        if (cursors[c].at < cursors[c].rows.size()) cursors[c].at++;
        return cursors[c].at < cursors[c].rows.size();
    }

    int col(int c, int i) {
        if (!on || !isScan(c) || cursors[c].isVoid) return 0;
        int at = cursors[c].at;
        if (at < 0 || at >= cursors[c].rows.size()) return 0;
        int[] row = cursors[c].rows.get(at);
        return i < 0 || i >= row.length ? 0 : row[i];
    }

    int closeScan(int c) {
        if (!on) return -1;
        if (!isScan(c)) return -9;
        cursors[c] = null;
        return 0;
    }

    int crashAfter(int n) {
        if (n < 0) return -4;
        crash = n;
        return 0;
    }

    int recover() {
        on = true;
        int n = disk[16][1];
        if (n > 0) {
            try {
                int image = 17;
                for (int b = 0; b < 16; b++) {
                    if ((disk[16][2] & 1 << b) != 0) write(b, disk[image++]);
                }
                write(16, new int[16]);
            } catch (PowerFailure e) {
                return -1;
            }
        }
        restart();
        return 0;
    }

    int peek(int b, int w) {
        return b < 0 || b > 32 || w < 0 || w > 15 ? -4 : disk[b][w];
    }

    int writes() {
        return writes;
    }

    private void restart() {
        tables = parse();
        inTransaction = false;
        Arrays.fill(cursors, null);
    }

    private boolean isTable(int t) {
        return t >= 0 && t < 5 && tables[t] != null;
    }

    private boolean isScan(int c) {
        return c >= 0 && c < 4 && cursors[c] != null;
    }

    private int mayChange(int t) {
        return !on ? -1 : !inTransaction ? -2 : isTable(t) ? 0 : -5;
    }

    private void touch(Table table) {
        for (Cursor c : cursors) {
            if (c != null && c.table == table) c.isVoid = true;
        }
    }

    private int lowestFreePage() {
        boolean[] used = new boolean[16];
        for (Table table : tables) {
            if (table != null) {
                for (Page p : table.pages) used[p.number] = true;
            }
        }
        for (int number = 1; number < 16; number++) {
            if (!used[number]) return number;
        }
        return 0;
    }

    private void write(int b, int[] words) throws PowerFailure {
        if (crash != null && crash == 0) {
            crash = null;
            on = false;
            throw new PowerFailure();
        }
        if (crash != null) crash--;
        disk[b] = words.clone();
        writes++;
    }

    private void writeOut() throws PowerFailure {
        int[][] wanted = draw();
        List<Integer> different = new ArrayList<>();
        int[] head = new int[16];
        for (int b = 0; b < 16; b++) {
            if (!Arrays.equals(wanted[b], disk[b])) {
                different.add(b);
                head[2] += 1 << b;
            }
        }
        if (different.isEmpty()) return;
        head[0] = 6517;
        head[1] = different.size();
        head[3] = 1;
        for (int i = 0; i < different.size(); i++) {
            write(17 + i, disk[different.get(i)]);
            for (int word : disk[17 + i]) head[3] = 31 * head[3] + word;
        }
        write(16, head);
        for (int b : different) write(b, wanted[b]);
        write(16, new int[16]);
    }

    private int[][] draw() {
        int[][] blocks = new int[16][16];
        for (int t = 0; t < 5; t++) {
            if (tables[t] == null) continue;
            blocks[0][t] = tables[t].width;
            List<Page> pages = tables[t].pages;
            for (int i = 0; i < pages.size(); i++) {
                if (i == 0) blocks[0][8 + t] = pages.get(0).number;
                int[] block = blocks[pages.get(i).number];
                block[0] = t + 1;
                block[1] = i + 1 < pages.size() ? pages.get(i + 1).number : 0;
                for (int s : pages.get(i).slots.keySet()) {
                    block[2] += 1 << s;
                    System.arraycopy(pages.get(i).slots.get(s), 0, block, 3 + s * tables[t].width, tables[t].width);
                }
            }
        }
        return blocks;
    }

    private Table[] parse() {
        Table[] parsed = new Table[5];
        for (int t = 0; t < 5; t++) {
            int width = disk[0][t];
            if (width == 0) continue;
            parsed[t] = new Table(width);
            for (int number = disk[0][8 + t]; number != 0; number = disk[number][1]) {
                Page p = new Page(number);
                for (int s = 0; s < parsed[t].slotsOfAPage(); s++) {
                    int from = 3 + s * width;
                    if ((disk[number][2] & 1 << s) != 0) p.slots.put(s, Arrays.copyOfRange(disk[number], from, from + width));
                }
                parsed[t].pages.add(p);
            }
        }
        return parsed;
    }
}
