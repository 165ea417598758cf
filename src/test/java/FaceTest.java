import java.lang.reflect.Constructor;
import java.lang.reflect.Field;
import java.lang.reflect.Method;
import java.lang.reflect.Modifier;
import java.util.HashSet;
import java.util.Set;
import java.util.TreeSet;

/** The document's public face, and what LANGUAGE.md's rules 1, 5 and 11 say of the classes' forms. */
public final class FaceTest {
    private static final Due due = new Due();
    private static final String[] METHODS = {
        "int format()", "int createTable(int)", "int dropTable(int)", "int begin()", "int commit()",
        "int rollback()", "int stage(int,int)", "int insert(int)", "int deleteKey(int,int)",
        "int updateCol(int,int,int,int)", "int lookup(int,int,int)", "boolean has(int,int)",
        "int count(int)", "int openScan(int,int,int,int)", "boolean next(int)", "int col(int,int)",
        "int closeScan(int)", "int crashAfter(int)", "int recover()", "int peek(int,int)", "int writes()",
    };
    private static final String[] CONSTANTS = {
        "DOWN", "NOTXN", "NESTED", "BADARG", "NOTABLE", "NOKEY", "DUPKEY", "NOROOM", "BADCUR",
    };

    public static void main(String[] args) throws Exception {
        theClass();
        methods();
        constants();
        insideClasses();
        due.end();
    }

    private static void theClass() {
        int flags = JournaledTables.class.getModifiers();
        due.is("public and final", Modifier.isPublic(flags) && Modifier.isFinal(flags), true);
        Constructor<?>[] all = JournaledTables.class.getDeclaredConstructors();
        due.is("constructors", all.length, 1);
        due.is("its parameters", all[0].getParameterCount(), 0);
        due.is("it is public", Modifier.isPublic(all[0].getModifiers()), true);
    }

    private static String signature(Method m) {
        StringBuilder text = new StringBuilder(m.getReturnType() + " " + m.getName() + "(");
        for (Class<?> type : m.getParameterTypes()) {
            text.append(text.charAt(text.length() - 1) == '(' ? "" : ",").append(type);
        }
        return text.append(")").toString();
    }

    private static void methods() {
        Set<String> seen = new TreeSet<>();
        for (Method m : JournaledTables.class.getDeclaredMethods()) {
            if (!Modifier.isPrivate(m.getModifiers())) {
                seen.add(signature(m));
                due.is(m.getName() + " is public, of an object",
                        Modifier.isPublic(m.getModifiers()) && !Modifier.isStatic(m.getModifiers()), true);
            }
        }
        for (String method : METHODS) {
            due.is("there is " + method, seen.remove(method), true);
        }
        due.is("others: " + seen, seen.size(), 0);
    }

    private static void constants() throws Exception {
        for (int i = 0; i < CONSTANTS.length; i++) {
            due.is(CONSTANTS[i], JournaledTables.class.getField(CONSTANTS[i]).getInt(null), -1 - i);
        }
        due.is("public fields", JournaledTables.class.getFields().length, CONSTANTS.length);
        for (Field f : JournaledTables.class.getDeclaredFields()) {
            boolean hidden = Modifier.isPrivate(f.getModifiers());
            due.is(f.getName() + " is public or private", hidden || Modifier.isPublic(f.getModifiers()), true);
        }
    }

    private static void insideClasses() {
        Set<String> faceNames = new HashSet<>();
        for (String method : METHODS) {
            faceNames.add(method.substring(method.indexOf(' ') + 1, method.indexOf('(')));
        }
        Class<?>[] inside = JournaledTables.class.getDeclaredClasses();
        due.is("at most twelve classes", inside.length < 12, true);
        for (Class<?> c : inside) {
            due.is(c + " is static", Modifier.isStatic(c.getModifiers()), true);
            due.is(c + " is not public", Modifier.isPublic(c.getModifiers()), false);
            for (Method m : c.getDeclaredMethods()) {
                due.is(c + "." + m.getName() + " has no name of the face", faceNames.contains(m.getName()), false);
                due.is(m + " has at most seven parameters", m.getParameterCount() <= 7, true);
            }
            for (Field f : c.getDeclaredFields()) {
                boolean fixed = !Modifier.isStatic(f.getModifiers()) || Modifier.isFinal(f.getModifiers());
                due.is(f + " is final if static", fixed, true);
            }
        }
    }
}
