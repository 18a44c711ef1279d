import java.lang.reflect.Constructor;
import java.lang.reflect.Field;
import java.lang.reflect.Method;
import java.lang.reflect.Modifier;
import java.util.Arrays;
import java.util.TreeSet;

/** The class shows the face of the document and nothing else. */
public final class FaceTest {
    private static final String[] FACE = {
        "int addTable() IllegalStateException",
        "int addColumn(int,boolean) IndexOutOfBoundsException,IllegalArgumentException,IllegalStateException,UnsupportedOperationException",
        "int addRow(int) IndexOutOfBoundsException,IllegalArgumentException,IllegalStateException",
        "int set(int,int,int,int) IndexOutOfBoundsException,IllegalArgumentException,UnsupportedOperationException",
        "int star(int) IndexOutOfBoundsException,IllegalStateException",
        "int pick(int,int,int,int) IndexOutOfBoundsException,IllegalArgumentException,IllegalStateException",
        "int filter(int,int,int) IndexOutOfBoundsException,IllegalArgumentException,IllegalStateException",
        "int join(int,int,int,int,boolean) IndexOutOfBoundsException,UnsupportedOperationException,IllegalStateException",
        "int union(int,int) IndexOutOfBoundsException,UnsupportedOperationException,IllegalStateException",
        "int sum(int,int,int) IndexOutOfBoundsException,IllegalStateException",
        "int relations() ",
        "int columns(int) IndexOutOfBoundsException",
        "int rows(int) IndexOutOfBoundsException,IllegalStateException",
        "int cell(int,int,int) IndexOutOfBoundsException,IllegalStateException,NoSuchElementException",
        "int nulls(int,int) IndexOutOfBoundsException,IllegalStateException",
        "int doubles(int,int) IndexOutOfBoundsException,IllegalStateException",
        "char effect(int,int,int,int) IndexOutOfBoundsException,IllegalArgumentException",
        "boolean changes(int,int,int,int,int,int) IndexOutOfBoundsException,IllegalArgumentException,UnsupportedOperationException,IllegalStateException",
        "int values(int,int) IndexOutOfBoundsException",
        "int controls(int) IndexOutOfBoundsException",
        "int firstTable(int,int) IndexOutOfBoundsException",
        "int firstColumn(int,int) IndexOutOfBoundsException",
        "boolean isNeverNull(int,int) IndexOutOfBoundsException",
        "boolean isNeverTwice(int,int) IndexOutOfBoundsException",
        "int users(int) IndexOutOfBoundsException",
        "float affectedShare(int,int) IndexOutOfBoundsException,IllegalArgumentException,ArithmeticException",
        "double meanValues(int) IndexOutOfBoundsException",
    };

    public static void main(String[] args) {
        Class<?> face = QueryLineage.class;
        Check.same("final", Modifier.isFinal(face.getModifiers()), true);
        TreeSet<String> found = new TreeSet<>();
        TreeSet<String> publicNames = new TreeSet<>();
        for (Method method : face.getDeclaredMethods()) {
            if (Modifier.isPublic(method.getModifiers())) {
                found.add(text(method));
                publicNames.add(method.getName());
            }
        }
        Check.same("public methods", found, new TreeSet<>(Arrays.asList(FACE)));
        for (Method method : face.getDeclaredMethods()) {
            if (!Modifier.isPublic(method.getModifiers()) && !method.isSynthetic()) {
                Check.same("private: " + method, Modifier.isPrivate(method.getModifiers()), true);
                Check.same("name of a public one: " + method, publicNames.contains(method.getName()), false);
            }
        }
        for (Field field : face.getDeclaredFields()) {
            Check.same("private: " + field, Modifier.isPrivate(field.getModifiers()), true);
        }
        Constructor<?>[] constructors = face.getDeclaredConstructors();
        Check.same("constructors", constructors.length, 1);
        Check.same("public", Modifier.isPublic(constructors[0].getModifiers()), true);
        Check.end();
    }

    private static String text(Method method) {
        return method.getReturnType().getSimpleName() + " " + method.getName()
            + "(" + names(method.getParameterTypes()) + ") " + names(method.getExceptionTypes());
    }

    private static String names(Class<?>[] types) {
        StringBuilder names = new StringBuilder();
        for (Class<?> type : types) {
            names.append(names.length() == 0 ? "" : ",").append(type.getSimpleName());
        }
        return names.toString();
    }
}
