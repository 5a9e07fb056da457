import java.lang.reflect.Field;
import java.lang.reflect.Method;
import java.lang.reflect.Modifier;
import java.util.Arrays;
import java.util.TreeSet;

/** The public face, and rule 1 of the language: nothing else can be seen, and names stay apart. */
public final class FaceTest {
    private static final String[] FACE = {
        "int set(int, long) IllegalArgumentException",
        "int line(long) IllegalArgumentException IndexOutOfBoundsException",
        "int read(int, int) IllegalArgumentException ArithmeticException",
        "int show(int, int) IllegalArgumentException",
        "int letter(int) IndexOutOfBoundsException",
        "int work(int, int, int, int) IllegalArgumentException ArithmeticException",
        "int divide(boolean, int, int, int, int) IllegalArgumentException ArithmeticException",
        "int shift(int, int, int) IllegalArgumentException ArithmeticException",
        "int bits(int, int, int, int) IllegalArgumentException ArithmeticException",
        "int power(int, int, int) IllegalArgumentException ArithmeticException",
        "int residue(int, int, int, int) IllegalArgumentException ArithmeticException",
        "int compare(int, int) IllegalArgumentException",
        "long small(int) IllegalArgumentException ArithmeticException",
        "long low(int) IllegalArgumentException",
        "long folded(int) IllegalArgumentException",
        "int size(int) IllegalArgumentException"};

    public static void main(String[] args) {
        Class<?> face = LimbDesk.class;
        Check.due("the class is public and final", face.getModifiers(), Modifier.PUBLIC | Modifier.FINAL);
        Check.due("constructors", face.getDeclaredConstructors().length, 1);
        Check.due("public constructors", face.getConstructors().length, 1);
        Check.due("parameters of the constructor", face.getConstructors()[0].getParameterCount(), 0);
        methodsAreTheFace(face);
        fieldsAreHidden(face);
        innerClassesAreHidden(face);
        Check.finish("FaceTest");
    }

    private static void methodsAreTheFace(Class<?> face) {
        TreeSet<String> seen = new TreeSet<>();
        TreeSet<String> names = new TreeSet<>();
        for (Method method : face.getDeclaredMethods()) {
            if (Modifier.isPublic(method.getModifiers())) {
                seen.add(told(method));
                names.add(method.getName());
            } else if (!Modifier.isPrivate(method.getModifiers())) {
                Check.complain(method + " can be seen");
            }
        }
        for (Method method : face.getDeclaredMethods()) {
            if (Modifier.isPrivate(method.getModifiers()) && names.contains(method.getName())) {
                Check.complain(method + " bears a public name");
            }
        }
        Check.due("the face", String.join("\n", seen), String.join("\n", new TreeSet<>(Arrays.asList(FACE))));
    }

    private static String told(Method method) {
        StringBuilder text = new StringBuilder();
        text.append(method.getReturnType()).append(' ').append(method.getName()).append('(');
        String between = "";
        for (Class<?> type : method.getParameterTypes()) {
            text.append(between).append(type);
            between = ", ";
        }
        text.append(')');
        for (Class<?> type : method.getExceptionTypes()) {
            text.append(' ').append(type.getSimpleName());
        }
        return text.toString();
    }

    private static void fieldsAreHidden(Class<?> face) {
        for (Field field : face.getDeclaredFields()) {
            if (!Modifier.isPrivate(field.getModifiers()) && !field.isSynthetic()) {
                Check.complain(field + " can be seen");
            }
            if (Modifier.isStatic(field.getModifiers()) && !Modifier.isFinal(field.getModifiers())) {
                Check.complain(field + " is static and not final");
            }
        }
    }

    private static void innerClassesAreHidden(Class<?> face) {
        for (Class<?> inner : face.getDeclaredClasses()) {
            int modifiers = inner.getModifiers();
            if (Modifier.isPublic(modifiers) || Modifier.isProtected(modifiers) || !Modifier.isStatic(modifiers)) {
                Check.complain(inner + " can be seen or is not static");
            }
        }
    }
}
