/**
 * A small store of tables: rows in pages of blocks, found by their keys and scanned in the order
 * of these; what a transaction changes comes to the disk by way of a journal of the old blocks, so
 * that a failure of the power at any write leaves, after recovery, all of it or nothing.
 */
public final class JournaledTables {
    public static final int DOWN = -1;
    public static final int NOTXN = -2;
    public static final int NESTED = -3;
    public static final int BADARG = -4;
    public static final int NOTABLE = -5;
    public static final int NOKEY = -6;
    public static final int DUPKEY = -7;
    public static final int NOROOM = -8;
    public static final int BADCUR = -9;

    private static final int OK = 0;
    /** No table, no row and no slot: all three are numbered from 0. */
    private static final int NONE = -1;

    private static final int BLOCK_WORDS = 16;
    /** The catalogue and the pages: what the memory holds, and what a journal can undo. */
    private static final int HOME_BLOCKS = 16;
    private static final int HEAD = 16;
    private static final int FIRST_IMAGE = 17;
    private static final int DISK_BLOCKS = 33;

    private static final int MOST_TABLES = 5;
    private static final int LEAST_WIDTH = 2;
    private static final int MOST_WIDTH = 6;
    private static final int MOST_SCANS = 4;

    private final Disk disk;
    private final Memory memory;
    private final Journal journal;
    private final Scan[] scans;
    private final int[] staged;
    private boolean inTransaction;

    public JournaledTables() {
        disk = new Disk();
        memory = new Memory();
        journal = new Journal(disk, memory);
        scans = new Scan[MOST_SCANS];
        for (int c = 0; c < MOST_SCANS; c++) {
            scans[c] = new Scan();
        }
        staged = new int[MOST_WIDTH];
        inTransaction = false;
    }

    public int format() {
        disk.wipe();
        startAnew();
        return OK;
    }

    public int createTable(int cols) {
        if (!disk.powered()) {
            return DOWN;
        }
        if (cols < LEAST_WIDTH || cols > MOST_WIDTH) {
            return BADARG;
        }
        if (!inTransaction) {
            return NOTXN;
        }
        int t = memory.freeTable();
        if (t == NONE) {
            return NOROOM;
        }
        memory.addTable(t, cols);
        return t;
    }

    public int dropTable(int t) {
        int refusal = refusalOfChange(t);
        if (refusal != OK) {
            return refusal;
        }
        memory.removeTable(t);
        voidScansOf(t);
        return OK;
    }

    public int begin() {
        if (!disk.powered()) {
            return DOWN;
        }
        if (inTransaction) {
            return NESTED;
        }
        inTransaction = true;
        return OK;
    }

    public int commit() {
        int refusal = refusalOutsideTransaction();
        if (refusal != OK) {
            return refusal;
        }
        if (!journal.carryOut()) {
            return DOWN;
        }
        inTransaction = false;
        return OK;
    }

    public int rollback() {
        int refusal = refusalOutsideTransaction();
        if (refusal != OK) {
            return refusal;
        }
        memory.load(disk);
        inTransaction = false;
        for (int t = 0; t < MOST_TABLES; t++) {
            voidScansOf(t);
        }
        return OK;
    }

    public int stage(int i, int word) {
        if (!disk.powered()) {
            return DOWN;
        }
        if (i < 0 || i >= MOST_WIDTH) {
            return BADARG;
        }
        staged[i] = word;
        return OK;
    }

    public int insert(int t) {
        int refusal = refusalOfChange(t);
        if (refusal != OK) {
            return refusal;
        }
        if (memory.rowOf(t, staged[0]) != NONE) {
            return DUPKEY;
        }
        if (!memory.addRow(t, staged)) {
            return NOROOM;
        }
        voidScansOf(t);
        return OK;
    }

    public int deleteKey(int t, int key) {
        int refusal = refusalOfChange(t);
        if (refusal != OK) {
            return refusal;
        }
        int row = memory.rowOf(t, key);
        if (row == NONE) {
            return NOKEY;
        }
        memory.removeRow(t, row);
        voidScansOf(t);
        return OK;
    }

    public int updateCol(int t, int key, int col, int word) {
        int refusal = refusalOfChange(t);
        if (refusal != OK) {
            return refusal;
        }
        // A row is found by word 0: were it set here, two rows could come to have one key.
        if (col < 1 || col >= memory.width(t)) {
            return BADARG;
        }
        int row = memory.rowOf(t, key);
        if (row == NONE) {
            return NOKEY;
        }
        memory.setWord(row + col, word);
        voidScansOf(t);
        return OK;
    }

    public int lookup(int t, int key, int col) {
        if (!disk.powered() || !memory.hasCol(t, col)) {
            return 0;
        }
        int row = memory.rowOf(t, key);
        return row == NONE ? 0 : memory.word(row + col);
    }

    public boolean has(int t, int key) {
        return disk.powered() && memory.hasTable(t) && memory.rowOf(t, key) != NONE;
    }

    public int count(int t) {
        if (!disk.powered()) {
            return DOWN;
        }
        return memory.hasTable(t) ? memory.rowsOf(t) : NOTABLE;
    }

    public int openScan(int t, int col, int lo, int hi) {
        if (!disk.powered()) {
            return DOWN;
        }
        if (!memory.hasTable(t)) {
            return NOTABLE;
        }
        if (!memory.hasCol(t, col)) {
            return BADARG;
        }
        for (int c = 0; c < MOST_SCANS; c++) {
            if (scanOf(c) == null) {
                scans[c].start(t, col, lo, hi);
                return c;
            }
        }
        return NOROOM;
    }

    public boolean next(int c) {
        Scan scan = usableScan(c);
        return scan != null && scan.move(memory);
    }

    public int col(int c, int i) {
        Scan scan = usableScan(c);
        return scan == null ? 0 : scan.wordAt(memory, i);
    }

    public int closeScan(int c) {
        if (!disk.powered()) {
            return DOWN;
        }
        Scan scan = scanOf(c);
        if (scan == null) {
            return BADCUR;
        }
        scan.end();
        return OK;
    }

    public int crashAfter(int n) {
        if (n < 0) {
            return BADARG;
        }
        disk.failAfter(n);
        return OK;
    }

    public int recover() {
        disk.powerOn();
        if (!journal.undo()) {
            return DOWN;
        }
        startAnew();
        return OK;
    }

    public int peek(int b, int w) {
        if (b < 0 || b >= DISK_BLOCKS || w < 0 || w >= BLOCK_WORDS) {
            return BADARG;
        }
        return disk.word(b, w);
    }

    public int writes() {
        return disk.writesDone();
    }

    /** The memory is the disk, no transaction is open, and no scan. */
    private void startAnew() {
        memory.load(disk);
        inTransaction = false;
        for (int c = 0; c < MOST_SCANS; c++) {
            scans[c].end();
        }
    }

    private int refusalOutsideTransaction() {
        if (!disk.powered()) {
            return DOWN;
        }
        return inTransaction ? OK : NOTXN;
    }

    private int refusalOfChange(int t) {
        int refusal = refusalOutsideTransaction();
        if (refusal != OK) {
            return refusal;
        }
        return memory.hasTable(t) ? OK : NOTABLE;
    }

    private void voidScansOf(int t) {
        for (int c = 0; c < MOST_SCANS; c++) {
            scans[c].tableChanged(t);
        }
    }

    /** The open scan with a number, void or not; null when there is none. */
    private Scan scanOf(int c) {
        if (c < 0 || c >= MOST_SCANS) {
            return null;
        }
        return scans[c].isOpen() ? scans[c] : null;
    }

    private Scan usableScan(int c) {
        Scan scan = disk.powered() ? scanOf(c) : null;
        return scan == null || scan.isVoid() ? null : scan;
    }

    /** The blocks that outlast a failure of the power, and the power itself. */
    private static final class Disk {
        private static final int NO_CRASH = -1;

        private final int[] words = new int[DISK_BLOCKS * BLOCK_WORDS];
        private boolean powered = true;
        private int writesLeft = NO_CRASH;
        private int writesDone = 0;

        boolean powered() {
            return powered;
        }

        int writesDone() {
            return writesDone;
        }

        int word(int block, int w) {
            return words[block * BLOCK_WORDS + w];
        }

        void powerOn() {
            powered = true;
        }

        void failAfter(int n) {
            writesLeft = n;
        }

        void wipe() {
            for (int i = 0; i < words.length; i++) {
                words[i] = 0;
            }
            powered = true;
            writesLeft = NO_CRASH;
        }

        /** Puts a block of some words onto the disk, unless the power fails: then answers false. */
        boolean write(int block, int[] from, int fromBlock) {
            if (writesLeft == 0) {
                powered = false;
                writesLeft = NO_CRASH;
                return false;
            }
            if (writesLeft > 0) {
                writesLeft--;
            }
            System.arraycopy(from, fromBlock * BLOCK_WORDS, words, block * BLOCK_WORDS, BLOCK_WORDS);
            writesDone++;
            return true;
        }

        boolean copyBlock(int to, int from) {
            return write(to, words, from);
        }
    }

    /**
     * The blocks 0 .. 15 as they are to be: the catalogue and the pages. A row is named by the
     * place of its first word among all words.
     */
    private static final class Memory {
        private static final int FIRST_PAGE_WORD = 8;
        private static final int NEXT_PAGE_WORD = 1;
        private static final int SLOTS_WORD = 2;
        private static final int SLOTS_FROM = 3;
        private static final int NO_PAGE = 0;

        private final int[] words = new int[HOME_BLOCKS * BLOCK_WORDS];

        void load(Disk disk) {
            System.arraycopy(disk.words, 0, words, 0, words.length);
        }

        boolean differs(Disk disk, int block) {
            int from = block * BLOCK_WORDS;
            for (int i = from; i < from + BLOCK_WORDS; i++) {
                if (words[i] != disk.words[i]) {
                    return true;
                }
            }
            return false;
        }

        boolean save(Disk disk, int block) {
            return disk.write(block, words, block);
        }

        int word(int place) {
            return words[place];
        }

        void setWord(int place, int word) {
            words[place] = word;
        }

        boolean hasTable(int t) {
            return t >= 0 && t < MOST_TABLES && words[t] != 0;
        }

        int width(int t) {
            return hasTable(t) ? words[t] : 0;
        }

        boolean hasCol(int t, int col) {
            return col >= 0 && col < width(t);
        }

        int freeTable() {
            for (int t = 0; t < MOST_TABLES; t++) {
                if (words[t] == 0) {
                    return t;
                }
            }
            return NONE;
        }

        void addTable(int t, int width) {
            words[t] = width;
        }

        void removeTable(int t) {
            for (int page = 1; page < HOME_BLOCKS; page++) {
                if (isPageOf(t, page)) {
                    clear(page * BLOCK_WORDS, BLOCK_WORDS);
                }
            }
            words[FIRST_PAGE_WORD + t] = NO_PAGE;
            words[t] = 0;
        }

        /** The row of a table that has a key, or NONE. */
        int rowOf(int t, int key) {
            return leastRow(t, 0, key, key, key - 1L);
        }

        /** Of the rows whose word col is lo .. hi and whose key is above another, the first, or NONE. */
        int leastRow(int t, int col, int lo, int hi, long above) {
            int least = NONE;
            int slots = slots(t);
            for (int page = 1; page < HOME_BLOCKS; page++) {
                int slotsHere = isPageOf(t, page) ? slots : 0;
                for (int s = 0; s < slotsHere; s++) {
                    int row = rowAt(t, page, s);
                    boolean fits = hasRow(page, s) && words[row] > above
                            && words[row + col] >= lo && words[row + col] <= hi;
                    if (fits && (least == NONE || words[row] < words[least])) {
                        least = row;
                    }
                }
            }
            return least;
        }

        int rowsOf(int t) {
            int rows = 0;
            for (int page = 1; page < HOME_BLOCKS; page++) {
                if (isPageOf(t, page)) {
                    rows += Integer.bitCount(words[page * BLOCK_WORDS + SLOTS_WORD]);
                }
            }
            return rows;
        }

        /** Answers false, and changes nothing, when there is no room for one more row. */
        boolean addRow(int t, int[] row) {
            int page = pageWithRoom(t);
            if (page != NO_PAGE) {
                putRow(t, page, freeSlot(t, page), row);
                return true;
            }
            page = freePage();
            if (page == NO_PAGE) {
                return false;
            }
            words[linkTo(t, NO_PAGE)] = page;
            words[page * BLOCK_WORDS] = t + 1;
            putRow(t, page, 0, row);
            return true;
        }

        private void putRow(int t, int page, int s, int[] row) {
            System.arraycopy(row, 0, words, rowAt(t, page, s), width(t));
            words[page * BLOCK_WORDS + SLOTS_WORD] |= 1 << s;
        }

        void removeRow(int t, int row) {
            int page = row / BLOCK_WORDS;
            int from = page * BLOCK_WORDS;
            for (int s = 0; s < slots(t); s++) {
                if (rowAt(t, page, s) == row) {
                    words[from + SLOTS_WORD] &= ~(1 << s);
                }
            }
            clear(row, width(t));
            if (words[from + SLOTS_WORD] == 0) {
                words[linkTo(t, page)] = words[from + NEXT_PAGE_WORD];
                clear(from, BLOCK_WORDS);
            }
        }

        /** The first page, as they follow one another, that has a slot without a row. */
        private int pageWithRoom(int t) {
            int page = words[FIRST_PAGE_WORD + t];
            for (int i = 0; i < HOME_BLOCKS && isPageOf(t, page); i++) {
                if (freeSlot(t, page) != NONE) {
                    return page;
                }
                page = words[page * BLOCK_WORDS + NEXT_PAGE_WORD];
            }
            return NO_PAGE;
        }

        /** The place of the word that leads to a page of a table; NO_PAGE stands behind the last. */
        private int linkTo(int t, int page) {
            int place = FIRST_PAGE_WORD + t;
            for (int i = 0; i < HOME_BLOCKS && words[place] != page; i++) {
                if (!isPageOf(t, words[place])) {
                    return place;
                }
                place = words[place] * BLOCK_WORDS + NEXT_PAGE_WORD;
            }
            return place;
        }

        private int freePage() {
            for (int page = 1; page < HOME_BLOCKS; page++) {
                if (words[page * BLOCK_WORDS] == 0) {
                    return page;
                }
            }
            return NO_PAGE;
        }

        private int freeSlot(int t, int page) {
            for (int s = 0; s < slots(t); s++) {
                if (!hasRow(page, s)) {
                    return s;
                }
            }
            return NONE;
        }

        private boolean isPageOf(int t, int page) {
            return page >= 1 && page < HOME_BLOCKS && words[page * BLOCK_WORDS] == t + 1;
        }

        private boolean hasRow(int page, int s) {
            return (words[page * BLOCK_WORDS + SLOTS_WORD] >> s & 1) == 1;
        }

        private int rowAt(int t, int page, int s) {
            return page * BLOCK_WORDS + SLOTS_FROM + s * width(t);
        }

        private int slots(int t) {
            int width = width(t);
            return width == 0 ? 0 : (BLOCK_WORDS - SLOTS_FROM) / width;
        }

        private void clear(int from, int length) {
            for (int i = from; i < from + length; i++) {
                words[i] = 0;
            }
        }
    }

    /** Brings the memory to the disk so that it can be undone; sets of blocks are sums of 2^b. */
    private static final class Journal {
        private static final int MARK = 6517;
        private static final int MARK_WORD = 0;
        private static final int NUMBER_WORD = 1;
        private static final int BLOCKS_WORD = 2;
        private static final int CHECK_WORD = 3;
        private static final int HEAD_WORDS = 4;

        private final Disk disk;
        private final Memory memory;
        private final int[] head = new int[BLOCK_WORDS];

        Journal(Disk disk, Memory memory) {
            this.disk = disk;
            this.memory = memory;
        }

        /** Commits; false when the power fails in it. */
        boolean carryOut() {
            int blocks = changedBlocks();
            if (blocks == 0) {
                return true;
            }
            return keepImages(blocks) && writeHead(blocks) && saveBlocks(blocks) && clearHead();
        }

        /** Takes back a commit that did not come to its end; false when the power fails in it. */
        boolean undo() {
            int blocks = blocksToUndo();
            if (blocks == 0) {
                return true;
            }
            return restoreBlocks(blocks) && clearHead();
        }

        private int changedBlocks() {
            int blocks = 0;
            for (int b = 0; b < HOME_BLOCKS; b++) {
                if (memory.differs(disk, b)) {
                    blocks |= 1 << b;
                }
            }
            return blocks;
        }

        private boolean keepImages(int blocks) {
            for (int b = 0; b < HOME_BLOCKS; b++) {
                if (contains(blocks, b) && !disk.copyBlock(imageOf(blocks, b), b)) {
                    return false;
                }
            }
            return true;
        }

        private boolean writeHead(int blocks) {
            int n = Integer.bitCount(blocks);
            head[MARK_WORD] = MARK;
            head[NUMBER_WORD] = n;
            head[BLOCKS_WORD] = blocks;
            head[CHECK_WORD] = checkOfImages(n);
            return disk.write(HEAD, head, 0);
        }

        private boolean saveBlocks(int blocks) {
            for (int b = 0; b < HOME_BLOCKS; b++) {
                if (contains(blocks, b) && !memory.save(disk, b)) {
                    return false;
                }
            }
            return true;
        }

        private boolean clearHead() {
            for (int w = 0; w < HEAD_WORDS; w++) {
                head[w] = 0;
            }
            return disk.write(HEAD, head, 0);
        }

        private boolean restoreBlocks(int blocks) {
            for (int b = 0; b < HOME_BLOCKS; b++) {
                if (contains(blocks, b) && !disk.copyBlock(b, imageOf(blocks, b))) {
                    return false;
                }
            }
            return true;
        }

        /** The blocks that the head on the disk tells of; none when it is no head at all. */
        private int blocksToUndo() {
            int n = disk.word(HEAD, NUMBER_WORD);
            int blocks = disk.word(HEAD, BLOCKS_WORD);
            if (disk.word(HEAD, MARK_WORD) != MARK || n < 1 || n > HOME_BLOCKS) {
                return 0;
            }
            // A bit past the last home block would name no block that an image could go to.
            if (blocks >>> HOME_BLOCKS != 0 || Integer.bitCount(blocks) != n) {
                return 0;
            }
            for (int w = HEAD_WORDS; w < BLOCK_WORDS; w++) {
                if (disk.word(HEAD, w) != 0) {
                    return 0;
                }
            }
            return disk.word(HEAD, CHECK_WORD) == checkOfImages(n) ? blocks : 0;
        }

        private int checkOfImages(int n) {
            int check = 1;
            for (int image = FIRST_IMAGE; image < FIRST_IMAGE + n; image++) {
                for (int w = 0; w < BLOCK_WORDS; w++) {
                    check = 31 * check + disk.word(image, w);
                }
            }
            return check;
        }

        /** Images stand in the order of their blocks: those of the lower ones go before. */
        private static int imageOf(int blocks, int b) {
            return FIRST_IMAGE + Integer.bitCount(blocks & (1 << b) - 1);
        }

        private static boolean contains(int blocks, int b) {
            return (blocks >> b & 1) == 1;
        }
    }

    /**
     * A way over rows of one table. It keeps no rows of its own: since each change of the table
     * makes it void, the rows in memory are still those that matched when it was opened.
     */
    private static final class Scan {
        private static final long BELOW_ALL_KEYS = -(1L << 31) - 1;

        private boolean open = false;
        private boolean isVoid = false;
        private int table = 0;
        private int col = 0;
        private int lo = 0;
        private int hi = 0;
        private long passedKey = BELOW_ALL_KEYS;
        private int row = NONE;

        boolean isOpen() {
            return open;
        }

        boolean isVoid() {
            return isVoid;
        }

        void start(int t, int ofCol, int from, int to) {
            open = true;
            isVoid = false;
            table = t;
            col = ofCol;
            lo = from;
            hi = to;
            passedKey = BELOW_ALL_KEYS;
            row = NONE;
        }

        void end() {
            open = false;
        }

        void tableChanged(int t) {
            if (t == table) {
                isVoid = true;
            }
        }

        boolean move(Memory memory) {
            row = memory.leastRow(table, col, lo, hi, passedKey);
            if (row == NONE) {
                return false;
            }
            passedKey = memory.word(row);
            return true;
        }

        int wordAt(Memory memory, int i) {
            if (row == NONE || !memory.hasCol(table, i)) {
                return 0;
            }
            return memory.word(row + i);
        }
    }
}
