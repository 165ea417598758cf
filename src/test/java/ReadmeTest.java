import java.io.File;
import java.lang.reflect.Field;
import java.lang.reflect.Method;
import java.lang.reflect.Modifier;
import java.nio.file.Files;
import java.nio.file.Path;

/** What README.md tells: its example does what it says, and no call, code or test is left out. */
public final class ReadmeTest {
    private static final Due due = new Due();

    public static void main(String[] args) throws Exception {
        String text = Files.readString(Path.of("README.md"));
        example();
        roomOfEachKind();
        stagedRowStays();
        names(text);
        tests(text);
        due.end();
    }

    private static void example() {
        JournaledTables x = new JournaledTables();
        due.is("begin", x.begin(), 0);
        int t = x.createTable(3);
        due.is("createTable", t, 0);
        due.is("insert", Due.put(x, t, 5, 50, 500), 0);
        due.is("commit", x.commit(), 0);
        int c = x.openScan(t, 1, 0, 100);
        due.is("next", x.next(c), true);
        due.is("col 0", x.col(c, 0), 5);
        due.is("col 2", x.col(c, 2), 500);
        due.is("next behind the row", x.next(c), false);
        due.is("closeScan", x.closeScan(c), 0);
        due.is("begin again", x.begin(), 0);
        due.is("updateCol", x.updateCol(t, 5, 2, 501), 0);
        due.is("crashAfter", x.crashAfter(3), 0);
        due.is("commit that is cut off", x.commit(), JournaledTables.DOWN);
        due.is("recover", x.recover(), 0);
        due.is("lookup", x.lookup(t, 5, 2), 500);
    }

    private static void roomOfEachKind() {
        JournaledTables x = Due.full(6);
        due.is("all fifteen pages", Due.put(x, 0, -1), JournaledTables.NOROOM);
        for (int t = 1; t < 5; t++) {
            due.is("a table", x.createTable(2), t);
        }
        due.is("five tables", x.createTable(2), JournaledTables.NOROOM);
        for (int c = 0; c < 4; c++) {
            due.is("a scan", x.openScan(0, 0, 0, 9), c);
        }
        due.is("four scans", x.openScan(0, 0, 0, 9), JournaledTables.NOROOM);
        due.is("a rollback makes them void", x.rollback(), 0);
        due.is("void, they keep their numbers", x.closeScan(3), 0);
    }

    private static void stagedRowStays() {
        JournaledTables x = Due.open(2);
        due.is("insert", Due.put(x, 0, 7, 70), 0);
        due.is("rollback", x.rollback(), 0);
        due.is("recover", x.recover(), 0);
        due.is("format", x.format(), 0);
        x.begin();
        x.createTable(2);
        due.is("insert of what is staged still", x.insert(0), 0);
        due.is("its word", x.lookup(0, 7, 1), 70);
    }

    private static void names(String text) {
        for (Method m : JournaledTables.class.getDeclaredMethods()) {
            if (Modifier.isPublic(m.getModifiers())) {
                due.is("it tells of " + m.getName(), text.contains("`" + m.getName() + "`"), true);
            }
        }
        for (Field f : JournaledTables.class.getFields()) {
            due.is("it tells of " + f.getName(), text.contains("| `" + f.getName() + "` |"), true);
        }
    }

    private static void tests(String text) {
        due.is("it tells how to run the tests", text.contains(".ci/run"), true);
        int seen = 0;
        for (String file : new File("src/test/java").list()) {
            if (file.endsWith("Test.java")) {
                seen++;
                String row = "| `" + file.substring(0, file.length() - 5) + "` |";
                due.is("it tells of " + file, text.contains(row), true);
            }
        }
        due.is("it tells of no others", text.split("\\| `\\w+Test` \\|", -1).length - 1, seen);
    }
}
