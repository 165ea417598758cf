import java.math.BigInteger;

/** The boundaries in the sentences of "What it is" and of "Terms", up to the journal's head. */
public final class EdgesOfTermsTest {
    private static final Due due = new Due();

    public static void main(String[] args) {
        callsOfAnObject();
        blocksOfTheDisk();
        aWriteIsWhole();
        memoryBeforeTheDisk();
        tablesOfTheCatalogue();
        otherWordsOfTheCatalogue();
        pageOfTheLastTable();
        slotsOfEachWidth();
        wordsWithoutARow();
        freePages();
        keysOfRows();
        onlyInATransaction();
        commitOfNoBlock();
        commitOfOneBlock();
        commitOfSixteenBlocks();
        orderOfTheWrites();
        headOfOneBlock();
        headOfSixteenBlocks();
        checkOfOddWords();
        due.end();
    }

    private static void callsOfAnObject() {
        due.sentence("An object is used for at most 512 calls after it has been made; "
                + "what later calls answer is free.");
        JournaledTables x = Due.open(2);
        for (int call = 3; call <= 509; call++) {
            x.stage(1, call);
        }
        due.is("call 510", x.insert(0), 0);
        due.is("call 511", x.lookup(0, 0, 1), 509);
        due.is("call 512", x.commit(), 0);
        // What this one answers is free, but it may not throw.
        x.peek(0, 0);
    }

    private static void blocksOfTheDisk() {
        due.sentence("THE DISK has blocks 0 .. 32 of 16 words (ints): 0 the CATALOGUE, 1 .. 15 PAGES, "
                + "16 the journal's HEAD, 17 .. 32 its IMAGES.");
        JournaledTables x = Due.full(2);
        x.commit();
        due.is("peek(0, 0)", x.peek(0, 0), 2);
        due.is("peek(1, 3)", x.peek(1, 3), 0);
        due.is("peek(1, 14)", x.peek(1, 14), 1005);
        due.is("peek(15, 0)", x.peek(15, 0), 1);
        due.is("peek(15, 14)", x.peek(15, 14), 1089);
        due.block("the head is no page", x, 16);
        x.begin();
        x.dropTable(0);
        x.commit();
        due.is("the first image", x.peek(17, 0), 2);
        due.is("the last image", x.peek(32, 14), 1089);
        due.is("the last word", x.peek(32, 15), 0);
        due.is("peek(-1, 0)", x.peek(-1, 0), JournaledTables.BADARG);
        due.is("peek(33, 0)", x.peek(33, 0), JournaledTables.BADARG);
        due.is("peek(0, -1)", x.peek(0, -1), JournaledTables.BADARG);
        due.is("peek(0, 16)", x.peek(0, 16), JournaledTables.BADARG);
        due.is("peek(32, 16)", x.peek(32, 16), JournaledTables.BADARG);
    }

    private static void aWriteIsWhole() {
        due.sentence("A WRITE puts a whole block onto it.");
        for (int n = 2; n <= 3; n++) {
            JournaledTables x = Due.open(6);
            Due.put(x, 0, 9, 1, 2, 3, 4, 5);
            x.commit();
            x.begin();
            for (int col = 1; col < 6; col++) {
                x.updateCol(0, 9, col, 10 * col);
            }
            x.crashAfter(n);
            due.is("commit", x.commit(), JournaledTables.DOWN);
            if (n == 2) {
                due.block("the write that is not done", x, 1, 1, 0, 1, 9, 1, 2, 3, 4, 5);
            } else {
                due.block("the write that is done", x, 1, 1, 0, 1, 9, 10, 20, 30, 40, 50);
            }
        }
    }

    private static void memoryBeforeTheDisk() {
        due.sentence("THE MEMORY has the blocks 0 .. 15 as they are to be.");
        JournaledTables x = Due.full(6);
        due.is("a row of page 1", x.lookup(0, 0, 5), 5000);
        due.is("a row of page 15", x.lookup(0, 29, 5), 5029);
        due.block("block 0 on disk", x, 0);
        due.block("block 15 on disk", x, 15);
        x.commit();
        due.block("block 0 on disk now", x, 0, 6, 0, 0, 0, 0, 0, 0, 0, 1);
        due.block("block 15 on disk now", x, 15, lastPageOfSix());
    }

    private static int[] lastPageOfSix() {
        return new int[] {1, 0, 3, 28, 1028, 2028, 3028, 4028, 5028, 29, 1029, 2029, 3029, 4029, 5029};
    }

    private static JournaledTables fiveTables() {
        JournaledTables x = Due.open(6, 5, 4, 3, 2);
        for (int t = 0; t < 5; t++) {
            Due.put(x, t, 7, 1);
        }
        return x;
    }

    private static void tablesOfTheCatalogue() {
        due.sentence("CATALOGUE: word t (0 .. 4) is the WIDTH of table t, 2 .. 6, or 0 when there is no such table; "
                + "word 8 + t its first page, or 0.");
        JournaledTables x = fiveTables();
        due.is("a sixth table", x.createTable(6), JournaledTables.NOROOM);
        x.commit();
        due.block("five tables", x, 0, 6, 5, 4, 3, 2, 0, 0, 0, 1, 2, 3, 4, 5);
        x.begin();
        x.dropTable(4);
        x.deleteKey(0, 7);
        x.commit();
        due.block("no table 4, table 0 without a page", x, 0, 6, 5, 4, 3, 0, 0, 0, 0, 0, 2, 3, 4);
        x.begin();
        for (int t = 0; t < 4; t++) {
            x.dropTable(t);
        }
        x.commit();
        due.block("no table", x, 0);
    }

    private static void otherWordsOfTheCatalogue() {
        due.sentence("All others are 0.");
        JournaledTables x = fiveTables();
        x.commit();
        for (int w : new int[] {5, 6, 7, 13, 14, 15}) {
            due.is("peek(0, " + w + ")", x.peek(0, w), 0);
        }
        due.is("the last width", x.peek(0, 4), 2);
        due.is("the first page of table 0", x.peek(0, 8), 1);
        due.is("the first page of table 4", x.peek(0, 12), 5);
    }

    private static void pageOfTheLastTable() {
        due.sentence("A PAGE of table t: word 0 is t + 1, word 1 the table's next page or 0, "
                + "word 2 the sum of 2^s for each SLOT s that has a row");
        JournaledTables x = Due.open(6, 6, 6, 6, 2);
        for (int key = 0; key < 7; key++) {
            Due.put(x, 4, key + 1, 0);
        }
        x.commit();
        due.block("six slots of six", x, 1, 5, 2, 63, 1, 0, 2, 0, 3, 0, 4, 0, 5, 0, 6, 0);
        due.block("one slot of six", x, 2, 5, 0, 1, 7);
        x.begin();
        x.deleteKey(4, 1);
        x.commit();
        due.is("without slot 0", x.peek(1, 2), 62);
        x.begin();
        x.deleteKey(4, 6);
        x.commit();
        due.is("without slot 5", x.peek(1, 2), 30);
        due.is("the next page stays", x.peek(1, 1), 2);
        x.begin();
        x.deleteKey(4, 7);
        x.commit();
        due.is("no next page", x.peek(1, 1), 0);
    }

    private static void slotsOfEachWidth() {
        due.sentence("from word 3 on the slots: 13 / width of them (without remainder), "
                + "of as many words as the table is wide.");
        int[] slots = {6, 4, 3, 2, 2};
        for (int width = 2; width <= 6; width++) {
            JournaledTables x = Due.open(width);
            int n = slots[width - 2];
            int[] page = new int[16];
            page[0] = 1;
            page[1] = 2;
            page[2] = (1 << n) - 1;
            for (int s = 0; s <= n; s++) {
                due.is("insert", Due.put(x, 0, 50 - s, 1, 2, 3, 4, 5), 0);
                for (int i = 0; s < n && i < width; i++) {
                    page[3 + s * width + i] = i == 0 ? 50 - s : i;
                }
            }
            x.commit();
            due.block("a full page of width " + width, x, 1, page);
            due.is("the row behind it has a page of its own", x.peek(2, 0), 1);
            due.is("in slot 0", x.peek(2, 2), 1);
            due.is("its key", x.peek(2, 3), 50 - n);
            due.is("no page behind it", x.peek(2, 1), 0);
        }
    }

    private static void wordsWithoutARow() {
        due.sentence("Words of slots without a row, and those behind the slots, are 0.");
        int[] behind = {15, 15, 15, 13, 15};
        for (int width = 2; width <= 6; width++) {
            JournaledTables x = Due.open(width);
            for (int key = 1; key <= 13 / width; key++) {
                Due.put(x, 0, key, -1, -1, -1, -1, -1);
            }
            x.commit();
            int last = behind[width - 2] - 1;
            due.is("the last word of the last slot", x.peek(1, last), -1);
            for (int w = last + 1; w < 16; w++) {
                due.is("behind the slots of width " + width, x.peek(1, w), 0);
            }
            x.begin();
            x.deleteKey(0, 13 / width);
            x.commit();
            due.is("the row before it stays", x.peek(1, last - width), -1);
            for (int w = last - width + 1; w < 16; w++) {
                due.is("a slot without a row, width " + width, x.peek(1, w), 0);
            }
        }
    }

    private static void freePages() {
        due.sentence("A page that is none of any table is FREE: all its words are 0.");
        JournaledTables x = Due.open(6);
        for (int key = 1; key <= 3; key++) {
            Due.put(x, 0, key, 1, 1, 1, 1, 1);
        }
        x.commit();
        due.block("a page of one row", x, 2, 1, 0, 1, 3, 1, 1, 1, 1, 1);
        due.block("a page that never was one", x, 3);
        x.begin();
        x.deleteKey(0, 3);
        x.commit();
        due.block("a page of no row", x, 2);
        x.begin();
        x.dropTable(0);
        x.commit();
        due.block("a page of no table", x, 1);
    }

    private static void keysOfRows() {
        due.sentence("A ROW has as many words as its table is wide; the first is its KEY; "
                + "no two rows of a table have the same.");
        for (int width = 2; width <= 6; width++) {
            JournaledTables x = Due.open(width, width);
            due.is("insert", Due.put(x, 0, 1, 2, 3, 4, 5, 6), 0);
            due.is("the last word", x.lookup(0, 1, width - 1), width);
            due.is("one behind it", x.lookup(0, 1, width), 0);
            due.is("the same key, other words", Due.put(x, 0, 1, 7), JournaledTables.DUPKEY);
            due.is("the next key, the same words", Due.put(x, 0, 2, 2), 0);
            due.is("the key before", Due.put(x, 0, 0, 2), 0);
            due.is("the same key in another table", Due.put(x, 1, 1, 2), 0);
            x.deleteKey(0, 1);
            due.is("the key of a row that is gone", Due.put(x, 0, 1, 2), 0);
        }
    }

    private static void onlyInATransaction() {
        due.sentence("A TRANSACTION is open or not (at first not); only in an open one the memory may be changed.");
        JournaledTables x = new JournaledTables();
        due.is("createTable at first", x.createTable(2), JournaledTables.NOTXN);
        x.begin();
        due.is("createTable", x.createTable(2), 0);
        due.is("insert", Due.put(x, 0, 1, 10), 0);
        x.commit();
        due.is("createTable behind it", x.createTable(2), JournaledTables.NOTXN);
        due.is("insert behind it", Due.put(x, 0, 2, 20), JournaledTables.NOTXN);
        due.is("updateCol behind it", x.updateCol(0, 1, 1, 11), JournaledTables.NOTXN);
        due.is("deleteKey behind it", x.deleteKey(0, 1), JournaledTables.NOTXN);
        due.is("dropTable behind it", x.dropTable(0), JournaledTables.NOTXN);
        due.is("count", x.count(0), 1);
        due.is("lookup", x.lookup(0, 1, 1), 10);
        x.begin();
        due.is("insert in the next", x.insert(0), 0);
        due.is("updateCol in the next", x.updateCol(0, 1, 1, 11), 0);
        due.is("deleteKey in the next", x.deleteKey(0, 1), 0);
        due.is("dropTable in the next", x.dropTable(0), 0);
    }

    private static void commitOfNoBlock() {
        due.sentence("If n is 0 nothing is written.");
        JournaledTables x = new JournaledTables();
        x.crashAfter(0);
        x.begin();
        due.is("commit without a change", x.commit(), 0);
        x.begin();
        x.createTable(2);
        x.dropTable(0);
        due.is("commit of a change and its contrary", x.commit(), 0);
        due.is("writes", x.writes(), 0);
        x.begin();
        x.createTable(2);
        due.is("commit of one block", x.commit(), JournaledTables.DOWN);
    }

    private static void commitOfOneBlock() {
        due.sentence("those of the blocks 0 .. 15 that are different in memory and on disk");
        JournaledTables x = Due.full(6);
        x.commit();
        for (int page = 1; page <= 15; page += 14) {
            int before = x.writes();
            x.begin();
            x.updateCol(0, 2 * page - 2, 1, -1);
            x.commit();
            due.is("one image, one block, two heads", x.writes(), before + 4);
            due.is("the block", x.peek(page, 4), -1);
            due.is("its image", x.peek(17, 4), 1000 + 2 * page - 2);
        }
        x.begin();
        x.updateCol(0, 0, 1, -1);
        int before = x.writes();
        x.commit();
        due.is("the word that it has is no difference", x.writes(), before);
    }

    private static void commitOfSixteenBlocks() {
        due.sentence("for each of D, ascending, what is on disk is written to the next image, from 17 on");
        JournaledTables x = Due.full(6);
        x.commit();
        due.is("writes", x.writes(), 34);
        x.begin();
        x.dropTable(0);
        x.commit();
        due.is("writes", x.writes(), 68);
        for (int i = 0; i < 16; i++) {
            due.is("word 0 of image " + i, x.peek(17 + i, 0), i == 0 ? 6 : 1);
            due.is("word 3 of image " + i, x.peek(17 + i, 3), i == 0 ? 0 : 2 * i - 2);
        }
        due.block("the last image", x, 32, lastPageOfSix());
        due.block("the last page", x, 15);
    }

    /** Pages 1 and 15 differ: 0 .. 6 writes of the commit are done. */
    private static void orderOfTheWrites() {
        due.sentence("the head is written, as said below; each of D, ascending, is written as it is in memory; "
                + "the head is written, all 0.");
        for (int n = 0; n <= 6; n++) {
            JournaledTables x = Due.full(6);
            x.commit();
            x.begin();
            x.updateCol(0, 29, 1, -29);
            x.updateCol(0, 0, 1, -1);
            x.crashAfter(n);
            String when = n + " writes: ";
            due.is(when + "commit", x.commit(), n < 6 ? JournaledTables.DOWN : 0);
            due.is(when + "writes", x.writes(), 34 + n);
            due.is(when + "image of page 1", x.peek(17, 4), n >= 1 ? 1000 : 0);
            due.is(when + "image of page 15", x.peek(18, 10), n >= 2 ? 1029 : 0);
            due.is(when + "no third image", x.peek(19, 0), 0);
            due.is(when + "the head's mark", x.peek(16, 0), n >= 3 && n < 6 ? 6517 : 0);
            due.is(when + "the head's number", x.peek(16, 1), n >= 3 && n < 6 ? 2 : 0);
            due.is(when + "the head's blocks", x.peek(16, 2), n >= 3 && n < 6 ? 32770 : 0);
            due.is(when + "the head's check", x.peek(16, 3) != 0, n >= 3 && n < 6);
            due.is(when + "page 1", x.peek(1, 4), n >= 4 ? -1 : 1000);
            due.is(when + "page 15", x.peek(15, 10), n >= 5 ? -29 : 1029);
        }
    }

    private static int wrapped(BigInteger check) {
        return check.mod(BigInteger.ONE.shiftLeft(32)).intValue();
    }

    private static BigInteger checkOf(BigInteger check, int... words) {
        for (int w = 0; w < 16; w++) {
            BigInteger word = BigInteger.valueOf(w < words.length ? words[w] : 0);
            check = check.multiply(BigInteger.valueOf(31)).add(word);
        }
        return check;
    }

    private static void headOfOneBlock() {
        due.sentence("THE HEAD of n blocks: word 0 is 6517, word 1 n, word 2 the sum of 2^b for each block b of D");
        JournaledTables x = Due.open(2);
        x.crashAfter(2);
        due.is("commit", x.commit(), JournaledTables.DOWN);
        int check = wrapped(BigInteger.valueOf(31).pow(16));
        due.block("one image, of zeros alone", x, 16, 6517, 1, 1, check);
        x.recover();
        due.block("recovered", x, 16);
    }

    private static void headOfSixteenBlocks() {
        due.sentence("word 3 the CHECK of the images: c is 1 at first, and for each word of the n images, "
                + "one after the other, becomes 31 c + word, wrapping; words 4 .. 15 are 0.");
        JournaledTables x = Due.full(6);
        x.commit();
        x.begin();
        x.dropTable(0);
        x.crashAfter(17);
        due.is("commit", x.commit(), JournaledTables.DOWN);
        BigInteger check = checkOf(BigInteger.ONE, 6, 0, 0, 0, 0, 0, 0, 0, 1);
        for (int page = 1; page <= 15; page++) {
            int[] words = lastPageOfSix();
            words[1] = page == 15 ? 0 : page + 1;
            for (int w = 3; w < 15; w++) {
                words[w] -= 2 * (15 - page);
            }
            check = checkOf(check, words);
        }
        due.block("sixteen images", x, 16, 6517, 16, 65535, wrapped(check));
    }

    private static void checkOfOddWords() {
        due.sentence("becomes 31 c + word, wrapping");
        int[][] odd = {
            {Integer.MIN_VALUE, Integer.MIN_VALUE}, {Integer.MAX_VALUE, Integer.MAX_VALUE},
            {Integer.MIN_VALUE, Integer.MAX_VALUE}, {-1, -1}, {1, 0}, {0, 1},
        };
        for (int[] row : odd) {
            JournaledTables x = Due.open(2);
            Due.put(x, 0, row);
            x.commit();
            x.begin();
            x.updateCol(0, row[0], 1, 5);
            x.crashAfter(2);
            due.is("commit", x.commit(), JournaledTables.DOWN);
            int check = wrapped(checkOf(BigInteger.ONE, 1, 0, 1, row[0], row[1]));
            due.block("head", x, 16, 6517, 1, 2, check);
        }
    }
}
