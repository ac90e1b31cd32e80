import java.lang.reflect.Constructor;
import java.lang.reflect.Field;
import java.lang.reflect.Method;
import java.lang.reflect.Modifier;
import java.util.TreeSet;

/** The class shows the face of the document, and nothing else. */
public final class FaceTest {
    private static final String[] FACE = {
        "int addColumn(int, int) IndexOutOfBoundsException IllegalArgumentException IllegalStateException",
        "int addRow(int) IndexOutOfBoundsException IllegalStateException",
        "int fill(int, int, int, int, int) IndexOutOfBoundsException IllegalArgumentException IllegalStateException",
        "boolean set(int, int, int, long) IndexOutOfBoundsException IllegalArgumentException",
        "int remove(int, int) IndexOutOfBoundsException",
        "long get(int, int, int) IndexOutOfBoundsException",
        "int size(int, int) IndexOutOfBoundsException IllegalArgumentException",
        "int kind(int, int) IndexOutOfBoundsException",
        "int version()",
        "int back(int) IndexOutOfBoundsException",
        "int sort(int, int, boolean, boolean) IndexOutOfBoundsException",
        "int rowAt(int, int) IndexOutOfBoundsException",
        "int placeOf(int, int) IndexOutOfBoundsException",
        "boolean isChosen(int, int) IndexOutOfBoundsException",
        "int choose(int, int) IndexOutOfBoundsException IllegalArgumentException IllegalStateException",
        "int turnChoice(int) IndexOutOfBoundsException",
        "int count(int) IndexOutOfBoundsException IllegalStateException",
        "int reads(int, boolean) IndexOutOfBoundsException IllegalStateException",
        "int errorKind(int) IndexOutOfBoundsException",
        "int errorPlace(int) IndexOutOfBoundsException",
        "int type(long) IllegalStateException",
        "int clearText()",
        "int example(int) IllegalArgumentException",
        "int join(int, int, int, int, int) IndexOutOfBoundsException IllegalArgumentException",
        "int pairAt(int, boolean) IndexOutOfBoundsException",
        "int joinErrors(int, int, int, int) IndexOutOfBoundsException IllegalArgumentException",
        "int group(int, int) IndexOutOfBoundsException",
        "long groupAt(int, int) IndexOutOfBoundsException IllegalArgumentException",
        "long total(int, int, int) IndexOutOfBoundsException IllegalArgumentException NoSuchElementException",
        "long groupTotal(int, int, int) IndexOutOfBoundsException IllegalArgumentException NoSuchElementException",
        "long running(int, int, int) IndexOutOfBoundsException IllegalArgumentException",
        "int rank(int, int, int, int) IndexOutOfBoundsException NoSuchElementException",
        "int previous(int, int, int) IndexOutOfBoundsException",
        "int between(int, int, long, long) IndexOutOfBoundsException IllegalArgumentException",
        "long nearest(int, int, long, boolean) IndexOutOfBoundsException IllegalArgumentException NoSuchElementException",
        "int alike(int, int, int) IndexOutOfBoundsException IllegalArgumentException",
        "int errors(int) IndexOutOfBoundsException",
        "double meanOf(int, int) IndexOutOfBoundsException IllegalArgumentException",
        "float chosenShare(int) IndexOutOfBoundsException",
    };
    private static final String[] CONSTANTS = {
        "int NONE = -1", "long MISSING = -9000000000", "int NUMBER = 0", "int TEXT = 1",
        "int SET = 0", "int AND = 1", "int OR = 2", "int WITHOUT = 3", "int INNER = 0", "int LEFT = 1", "int ANTI = 2",
    };

    public static void main(String[] args) throws IllegalAccessException {
        TreeSet<String> wanted = new TreeSet<>();
        for (String line : FACE) {
            wanted.add("public " + line);
        }
        for (String line : CONSTANTS) {
            wanted.add("public static final " + line);
        }
        wanted.add("public final ColumnVault()");
        TreeSet<String> found = new TreeSet<>();
        for (Method method : ColumnVault.class.getDeclaredMethods()) {
            if (!Modifier.isPrivate(method.getModifiers()) && !method.isSynthetic()) {
                found.add(Modifier.toString(method.getModifiers()) + " " + method.getReturnType() + " " + method.getName()
                    + "(" + names(method.getParameterTypes(), ", ") + ")" + thrown(method.getExceptionTypes()));
            }
        }
        for (Field field : ColumnVault.class.getDeclaredFields()) {
            if (!Modifier.isPrivate(field.getModifiers())) {
                found.add(Modifier.toString(field.getModifiers()) + " " + field.getType() + " " + field.getName() + " = " + field.get(null));
            }
        }
        for (Constructor<?> constructor : ColumnVault.class.getDeclaredConstructors()) {
            found.add("public final ColumnVault(" + names(constructor.getParameterTypes(), ", ") + ")" + thrown(constructor.getExceptionTypes()));
        }
        int wrong = 0;
        for (String line : wanted) {
            wrong += tell(!found.contains(line), "missing in the face: " + line);
        }
        for (String line : found) {
            wrong += tell(!wanted.contains(line), "not in the document: " + line);
        }
        wrong += tell(!Modifier.toString(ColumnVault.class.getModifiers()).equals("public final"), "the class is not public and final");
        if (wrong != 0) {
            System.exit(1);
        }
    }

    private static int tell(boolean isWrong, String line) {
        if (isWrong) {
            System.out.println(line);
        }
        return isWrong ? 1 : 0;
    }

    private static String thrown(Class<?>[] types) {
        return types.length == 0 ? "" : " " + names(types, " ");
    }

    private static String names(Class<?>[] types, String between) {
        StringBuilder line = new StringBuilder();
        for (Class<?> type : types) {
            line.append(line.length() == 0 ? "" : between).append(type.getSimpleName());
        }
        return line.toString();
    }
}
