import java.lang.reflect.Constructor;
import java.lang.reflect.Field;
import java.lang.reflect.Method;
import java.lang.reflect.Modifier;
import java.util.ArrayList;
import java.util.Arrays;
import java.util.List;
import java.util.Set;
import java.util.TreeSet;

/** The public face: every constant, the constructor and every method, with its throws clause. */
public final class FaceTest {
    private static final String OUT = "IndexOutOfBoundsException";
    private static final String ARGUMENT = "IllegalArgumentException";
    private static final String STATE = "IllegalStateException";

    private static final String[] METHODS = {
        "int addColumn(int,int,int) " + OUT + " " + ARGUMENT + " " + STATE,
        "int dropColumn(int,int) " + OUT,
        "int rename(int,int,int) " + OUT + " " + ARGUMENT,
        "int addRow(int,int) " + OUT + " " + STATE,
        "int removeRow(int,int) " + OUT,
        "int set(int,int,int,int) " + OUT + " " + ARGUMENT,
        "int setRule(int,int) " + OUT + " " + ARGUMENT,
        "boolean setReference(int,boolean) " + OUT,
        "int columns(int) " + OUT,
        "int rows(int) " + OUT,
        "int name(int,int) " + OUT,
        "int get(int,int,int) " + OUT,
        "int changes(int) " + OUT,
        "int fork()",
        "int merge()",
        "int accept() " + STATE,
        "int cellByChanges(int,int) " + OUT,
        "int conflicts()",
        "int open()",
        "int kindOf(int) " + OUT,
        "int keyOf(int) " + OUT,
        "int columnOf(int) " + OUT,
        "int settle(int,int) " + OUT + " " + STATE,
    };

    public static void main(String[] args) {
        constants();
        constructors();
        methods();
        nothingElseIsSeen();
        Check.end();
    }

    private static void constants() {
        Check.due("NONE", TableSplice.NONE, -1);
        Check.due("BASE", TableSplice.BASE, 0);
        Check.due("OURS", TableSplice.OURS, 1);
        Check.due("THEIRS", TableSplice.THEIRS, 2);
        Check.due("MERGED", TableSplice.MERGED, 3);
    }

    private static void constructors() {
        Constructor<?>[] all = TableSplice.class.getDeclaredConstructors();
        Check.due("constructors", all.length, 1);
        Check.due("a public constructor without parameters",
                all[0].getParameterCount() == 0 && Modifier.isPublic(all[0].getModifiers()), true);
        Check.due("a public final class", TableSplice.class.getModifiers(),
                Modifier.PUBLIC | Modifier.FINAL);
    }

    private static void methods() {
        Set<String> want = new TreeSet<>(Arrays.asList(METHODS));
        Set<String> got = new TreeSet<>();
        for (Method method : TableSplice.class.getDeclaredMethods()) {
            if (Modifier.isPublic(method.getModifiers())) {
                got.add(faceOf(method));
            }
        }
        for (String face : want) {
            Check.due("is there: " + face, got.contains(face), true);
        }
        for (String face : got) {
            Check.due("is due: " + face, want.contains(face), true);
        }
    }

    private static String faceOf(Method method) {
        List<String> parameters = new ArrayList<>();
        for (Class<?> type : method.getParameterTypes()) {
            parameters.add(type.getSimpleName());
        }
        StringBuilder face = new StringBuilder();
        face.append(method.getReturnType().getSimpleName()).append(' ').append(method.getName())
                .append('(').append(String.join(",", parameters)).append(')');
        for (Class<?> type : method.getExceptionTypes()) {
            face.append(' ').append(type.getSimpleName());
        }
        return face.toString();
    }

    private static void nothingElseIsSeen() {
        Set<String> constants = Set.of("NONE", "BASE", "OURS", "THEIRS", "MERGED");
        for (Field field : TableSplice.class.getDeclaredFields()) {
            Check.due("private: " + field.getName(), Modifier.isPrivate(field.getModifiers()),
                    !constants.contains(field.getName()));
        }
        for (Method method : TableSplice.class.getDeclaredMethods()) {
            int modifiers = method.getModifiers();
            Check.due("public or private: " + method.getName(),
                    Modifier.isPublic(modifiers) || Modifier.isPrivate(modifiers), true);
        }
    }
}
