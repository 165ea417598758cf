import java.lang.reflect.Field;

/**
 * Heads that recovering must not take for one. No run of calls leaves such a head on the disk, so
 * this test alone reaches into the object and writes it there.
 */
public final class FalseHeadsTest {
    private static final Due due = new Due();
    private static final int HEAD = 16 * 16;
    private static final int IMAGES = 17 * 16;

    public static void main(String[] args) throws ReflectiveOperationException {
        due.sentence("If the head on disk is one of n blocks, 1 .. 16, whose bits in word 2 are n in number, with the "
                + "check of the first n images, and all other words as said, those blocks are written again");
        trueHeads();
        marks();
        numbers();
        bits();
        bitsOfNoBlock();
        checks();
        otherWords();
        due.end();
    }

    private static int[] diskOf(JournaledTables x) throws ReflectiveOperationException {
        Field disk = JournaledTables.class.getDeclaredField("disk");
        disk.setAccessible(true);
        Field words = disk.get(x).getClass().getDeclaredField("words");
        words.setAccessible(true);
        return (int[]) words.get(disk.get(x));
    }

    /** A commit of block 1 that failed at its last write: the word 10 became 11, the head is there. */
    private static JournaledTables cutOff() {
        JournaledTables x = Due.open(2);
        Due.put(x, 0, 1, 10);
        x.commit();
        x.begin();
        x.updateCol(0, 1, 1, 11);
        x.crashAfter(3);
        x.commit();
        return x;
    }

    private static int checkOfImages(int[] disk, int n) {
        int check = 1;
        for (int i = IMAGES; i < IMAGES + 16 * n && i < disk.length; i++) {
            check = 31 * check + disk[i];
        }
        return check;
    }

    private static void isFalse(String head, int place, int word) throws ReflectiveOperationException {
        JournaledTables x = cutOff();
        diskOf(x)[HEAD + place] = word;
        isLeftAlone(head, x);
    }

    private static void isFalse(String head, int n, int blocks, int check) throws ReflectiveOperationException {
        JournaledTables x = cutOff();
        setHead(x, n, blocks, check);
        isLeftAlone(head, x);
    }

    private static void setHead(JournaledTables x, int n, int blocks, int check) throws ReflectiveOperationException {
        int[] disk = diskOf(x);
        disk[HEAD + 1] = n;
        disk[HEAD + 2] = blocks;
        disk[HEAD + 3] = check;
    }

    private static void isLeftAlone(String head, JournaledTables x) throws ReflectiveOperationException {
        int[] before = diskOf(x).clone();
        int writes = x.writes();
        due.is(head + ": recover", x.recover(), 0);
        due.is(head + ": no write", x.writes(), writes);
        due.is(head + ": the memory is the disk", x.lookup(0, 1, 1), 11);
        int[] after = diskOf(x);
        for (int i = 0; i < before.length; i++) {
            due.is(head + ": word " + i % 16 + " of block " + i / 16, after[i], before[i]);
        }
    }

    private static void isTrue(String head, JournaledTables x, int n) {
        int writes = x.writes();
        due.is(head + ": recover", x.recover(), 0);
        due.is(head + ": writes", x.writes(), writes + n + 1);
        due.is(head + ": n", x.peek(16, 1), 0);
    }

    private static void trueHeads() throws ReflectiveOperationException {
        JournaledTables x = cutOff();
        isTrue("as it is", x, 1);
        due.is("the old word", x.lookup(0, 1, 1), 10);
        for (int n : new int[] {1, 2, 15, 16}) {
            JournaledTables y = cutOff();
            setHead(y, n, (1 << n) - 1, checkOfImages(diskOf(y), n));
            isTrue("one of " + n + " blocks", y, n);
            due.is("block 0 is the first image", y.peek(0, 4), 10);
        }
    }

    private static void marks() throws ReflectiveOperationException {
        for (int mark : new int[] {6516, 6518, 0, -6517}) {
            isFalse("mark " + mark, 0, mark);
        }
    }

    private static void numbers() throws ReflectiveOperationException {
        int[] disk = diskOf(cutOff());
        isFalse("n 0", 0, 0, checkOfImages(disk, 0));
        isFalse("n 17", 17, (1 << 17) - 1, checkOfImages(disk, 17));
        isFalse("n 32", 32, -1, checkOfImages(disk, 32));
        isFalse("n -1", -1, 2, checkOfImages(disk, 1));
        isFalse("the least n", Integer.MIN_VALUE, 2, checkOfImages(disk, 1));
        isFalse("the most n", Integer.MAX_VALUE, 2, checkOfImages(disk, 1));
    }

    private static void bits() throws ReflectiveOperationException {
        int[] disk = diskOf(cutOff());
        isFalse("no bit for one", 1, 0, checkOfImages(disk, 1));
        isFalse("two bits for one", 1, 3, checkOfImages(disk, 1));
        isFalse("one bit for two", 2, 2, checkOfImages(disk, 2));
        isFalse("fifteen bits for sixteen", 16, 65534, checkOfImages(disk, 16));
        isFalse("sixteen bits for fifteen", 15, 65535, checkOfImages(disk, 15));
    }

    /** Blocks that an image could be of have the numbers 0 .. 15. */
    private static void bitsOfNoBlock() throws ReflectiveOperationException {
        int[] disk = diskOf(cutOff());
        isFalse("bit 16", 1, 1 << 16, checkOfImages(disk, 1));
        isFalse("bit 31", 1, 1 << 31, checkOfImages(disk, 1));
        isFalse("bits 15 and 16", 2, 3 << 15, checkOfImages(disk, 2));
    }

    private static void checks() throws ReflectiveOperationException {
        int check = checkOfImages(diskOf(cutOff()), 1);
        isFalse("check one more", 3, check + 1);
        isFalse("check one less", 3, check - 1);
        isFalse("check of two images", 3, checkOfImages(diskOf(cutOff()), 2));
        for (int w = 0; w < 16; w += 15) {
            JournaledTables x = cutOff();
            diskOf(x)[IMAGES + w]++;
            isLeftAlone("another word " + w + " of the image", x);
        }
        JournaledTables x = cutOff();
        diskOf(x)[IMAGES + 16]++;
        isTrue("another word of the image behind the last", x, 1);
    }

    private static void otherWords() throws ReflectiveOperationException {
        for (int w = 4; w < 16; w++) {
            isFalse("word " + w + " is 1", w, 1);
            isFalse("word " + w + " is -1", w, -1);
        }
    }
}
