import java.nio.file.Files;
import java.nio.file.Path;
import java.util.List;
import java.util.Set;
import java.util.regex.Matcher;
import java.util.regex.Pattern;

/** What LANGUAGE.md says of the program's text: its library, its words, and how long its methods are. */
public final class LanguageTest {
    private static final Due due = new Due();
    private static final Path PROGRAM = Path.of("src/main/java/JournaledTables.java");
    private static final Set<String> OWN = Set.of("JournaledTables", "Disk", "Memory", "Journal", "Scan");
    private static final Set<String> LISTED = Set.of(
            "System.arraycopy(", "Arrays.copyOf(", "Arrays.copyOfRange(", "Arrays.fill(", "List.of(");
    private static final List<String> RULED_OUT = List.of(
            "import", "package", "finally", "synchronized", "assert", "throw", "try", "catch", "double", "float",
            "protected", "native", "volatile", "transient", "var");

    public static void main(String[] args) throws Exception {
        String text = withoutComments(Files.readString(PROGRAM));
        due.is("the text is there", text.contains("public final class JournaledTables {"), true);
        library(text);
        words(text);
        objects(text);
        methods(text);
        due.end();
    }

    private static String withoutComments(String text) {
        return text.replaceAll("(?s)/\\*.*?\\*/", "").replaceAll("//[^\n]*", "");
    }

    private static Matcher find(String pattern, String text) {
        return Pattern.compile(pattern).matcher(text);
    }

    /** Of Integer, Long and Math the functions alone are listed, so their constants are not. */
    private static void library(String text) {
        due.sentence("The library: only what stands here.");
        Matcher use = find("\\b([A-Z][a-z]\\w*)\\.(\\w+)(\\(?)", text);
        while (use.find()) {
            if (!OWN.contains(use.group(1))) {
                boolean numbers = use.group(1).matches("Integer|Long|Math");
                boolean function = use.group(3).equals("(") && !use.group(2).endsWith("Exact");
                due.is(use.group() + " is listed", numbers && function || LISTED.contains(use.group()), true);
            }
        }
        Matcher name = find("\\b[A-Z][a-z]\\w*\\b(?!\\.)", text);
        while (name.find()) {
            due.is(name.group() + " is a class of the program", OWN.contains(name.group()), true);
        }
    }

    private static void words(String text) {
        due.sentence("the part of it that these rules leave");
        for (String word : RULED_OUT) {
            due.is("the word " + word, find("\\b" + word + "\\b", text).find(), false);
        }
        due.is("a lambda", text.contains("->"), false);
        due.is("a method reference", text.contains("::"), false);
        due.is("a loop without a bound", find("while \\(true\\)|for \\(;;\\)", text).find(), false);
    }

    /** All calls of a run live in one room: what is made in a constructor is made once. */
    private static void objects(String text) {
        due.sentence("What a run makes is counted");
        int from = text.indexOf("public JournaledTables() {");
        int to = text.indexOf("\n    }\n", from);
        String rest = text.substring(0, from) + text.substring(to);
        Matcher made = find("(?m)^(.*)\\bnew\\b.*$", rest);
        while (made.find()) {
            due.is("with the object is made: " + made.group().strip(),
                    made.group(1).strip().startsWith("private final "), true);
        }
    }

    private static void methods(String text) {
        due.sentence("Methods stay short (some sixty lines)");
        Matcher method = find("(?m)^( +)([^\\n;=]+\\([^\\n]*\\)) \\{\\n((?:\\1 +[^\\n]*\\n|\\n)*)\\1\\}", text);
        int seen = 0;
        while (method.find()) {
            if (!method.group(2).strip().matches("(if|for|while|switch|\\} else).*")) {
                seen++;
                int lines = method.group(3).split("\n").length + 2;
                due.is(method.group(2) + " is short", lines <= 60, true);
            }
        }
        due.is("methods were seen", seen >= 70, true);
    }
}
