import java.lang.reflect.Constructor;
import java.lang.reflect.Field;
import java.lang.reflect.Method;
import java.lang.reflect.Modifier;
import java.util.Arrays;
import java.util.Set;
import java.util.TreeSet;

/** The public face is the document's and nothing else is seen from outside (rule 1 of LANGUAGE.md). */
public final class FaceTest {
    private static final Checks CHECKS = new Checks();

    public static void main(String[] args) {
        Set<String> due = new TreeSet<>(Arrays.asList(
                "boolean times(int, int) ArrayIndexOutOfBoundsException",
                "int row()",
                "boolean entry(int, int) ArrayIndexOutOfBoundsException IllegalArgumentException",
                "boolean cube(int, int, int)",
                "int lay(int, int, int, int, int) ArrayIndexOutOfBoundsException IllegalArgumentException",
                "boolean take(int) ArrayIndexOutOfBoundsException",
                "int untake()",
                "int open(int) ArrayIndexOutOfBoundsException",
                "int ways(int)",
                "int nodes()",
                "int way(int, int)",
                "int turn()",
                "boolean exchange(int, int, int) ArrayIndexOutOfBoundsException",
                "int classes()",
                "int tell(int, int) ArrayIndexOutOfBoundsException"));
        Set<String> names = new TreeSet<>();
        for (String method : due) {
            names.add(method.substring(method.indexOf(' ') + 1, method.indexOf('(')));
        }
        Class<?> face = LinkedCovers.class;
        CHECKS.same("public and final", face.getModifiers(), Modifier.PUBLIC | Modifier.FINAL);
        Constructor<?>[] made = face.getDeclaredConstructors();
        CHECKS.same("one constructor", made.length, 1);
        CHECKS.same("public", made[0].getModifiers(), Modifier.PUBLIC);
        CHECKS.yes("of two ints", Arrays.equals(made[0].getParameterTypes(), new Class<?>[] {int.class, int.class}));
        Set<String> found = new TreeSet<>();
        for (Method method : face.getDeclaredMethods()) {
            if (!Modifier.isPrivate(method.getModifiers())) {
                found.add(text(method));
            }
        }
        CHECKS.yes("methods " + found, found.equals(due));
        noPrivateNamesake(face, names);
        for (Field field : face.getDeclaredFields()) {
            CHECKS.yes("private field " + field.getName(), Modifier.isPrivate(field.getModifiers()));
        }
        for (Class<?> inside : face.getDeclaredClasses()) {
            CHECKS.yes("static class " + inside.getName(), Modifier.isStatic(inside.getModifiers()));
            CHECKS.no("public class " + inside.getName(), Modifier.isPublic(inside.getModifiers()));
            noPrivateNamesake(inside, names);
        }
        CHECKS.end();
    }

    private static void noPrivateNamesake(Class<?> where, Set<String> names) {
        for (Method method : where.getDeclaredMethods()) {
            if (Modifier.isPrivate(method.getModifiers())) {
                CHECKS.no("private namesake " + method.getName(), names.contains(method.getName()));
            }
        }
    }

    private static String text(Method method) {
        StringBuilder text = new StringBuilder(method.getReturnType() + " " + method.getName() + "(");
        for (Class<?> type : method.getParameterTypes()) {
            text.append(text.charAt(text.length() - 1) == '(' ? "" : ", ").append(type);
        }
        text.append(')');
        for (Class<?> thrown : method.getExceptionTypes()) {
            text.append(' ').append(thrown.getSimpleName());
        }
        return text.toString();
    }
}
