import java.lang.reflect.Constructor;
import java.lang.reflect.Field;
import java.lang.reflect.Method;
import java.lang.reflect.Modifier;
import java.util.Arrays;
import java.util.TreeSet;

/** The public face: just the document's constants, constructor and methods, and nothing else that can be seen. */
public final class FaceTest {
    private static final String I = "IndexOutOfBoundsException";
    private static final String A = "IllegalArgumentException";
    private static final String S = "IllegalStateException";

    private static final String[] METHODS = {
        "boolean setCut(int, int, int) " + I + " " + A,
        "boolean setWarm(int, boolean) " + I,
        "boolean setFrost(int, int) " + A,
        "int fill(int, int, int, int) " + I + " " + A + " " + S,
        "int move(int, int, int) " + I + " " + A + " " + S,
        "int count(int, int) " + I + " " + A + " " + S,
        "int setPeople(int, int) " + I + " " + A,
        "int pass(int) " + A + " " + S,
        "int nextCrew() " + S,
        "int today()",
        "int hunger(int) " + I,
        "int lots()",
        "int amount(int) " + I,
        "int about(int) " + I,
        "int stock(int, int) " + I,
        "int stockByJournal(int, int) " + I,
        "int enoughFor()",
        "int entries()",
        "int changeOf(int) " + I,
        "int lotOf(int) " + I,
        "int changed(int, int) " + A,
    };

    public static void main(String[] args) {
        Check check = new Check();
        constants(check);
        members(check);
        check.end();
    }

    private static void constants(Check check) {
        check.same("NONE", GlacierBook.NONE, -1);
        check.same("FILLED", GlacierBook.FILLED, 0);
        check.same("MOVED", GlacierBook.MOVED, 1);
        check.same("FROZEN", GlacierBook.FROZEN, 2);
        check.same("EATEN", GlacierBook.EATEN, 3);
        check.same("OLD", GlacierBook.OLD, 4);
        check.same("COUNTED", GlacierBook.COUNTED, 5);
    }

    private static void members(Check check) {
        Class<?> face = GlacierBook.class;
        check.same("public final", face.getModifiers(), Modifier.PUBLIC | Modifier.FINAL);
        check.same("constructors", face.getDeclaredConstructors().length, 1);
        for (Constructor<?> made : face.getDeclaredConstructors()) {
            check.same("constructor", made.toString(), "public GlacierBook()");
        }
        TreeSet<String> methods = new TreeSet<>();
        for (Method method : face.getDeclaredMethods()) {
            if (!Modifier.isPrivate(method.getModifiers()) && !method.isSynthetic()) {
                methods.add(told(method));
            }
        }
        check.same("methods", methods.toString(), new TreeSet<>(Arrays.asList(METHODS)).toString());
        TreeSet<String> fields = new TreeSet<>();
        for (Field field : face.getDeclaredFields()) {
            if (!Modifier.isPrivate(field.getModifiers())) {
                fields.add(field.toString().replace("GlacierBook.", ""));
            }
        }
        check.same("fields", fields.toString(), "[public static final int COUNTED, public static final int EATEN, "
                + "public static final int FILLED, public static final int FROZEN, public static final int MOVED, "
                + "public static final int NONE, public static final int OLD]");
    }

    private static String told(Method method) {
        StringBuilder told = new StringBuilder();
        told.append(method.getReturnType()).append(' ').append(method.getName());
        String arguments = Arrays.toString(method.getParameterTypes());
        told.append('(').append(arguments, 1, arguments.length() - 1).append(')');
        for (Class<?> thrown : method.getExceptionTypes()) {
            told.append(' ').append(thrown.getSimpleName());
        }
        return told.toString();
    }
}
