import java.lang.reflect.Constructor;
import java.lang.reflect.Executable;
import java.lang.reflect.Field;
import java.lang.reflect.Method;
import java.lang.reflect.Modifier;
import java.util.Arrays;
import java.util.Set;
import java.util.TreeSet;

/** The public face, and rules 1 and 5 of LANGUAGE.md, as far as the compiled class shows them. */
public final class FaceTest {
    private static final Check CHECK = new Check();

    public static void main(String[] args) {
        CHECK.isTrue("public and final", Modifier.isPublic(FixedPress.class.getModifiers())
                && Modifier.isFinal(FixedPress.class.getModifiers()));
        face();
        for (Field field : FixedPress.class.getDeclaredFields()) {
            CHECK.isTrue(field + " is private", Modifier.isPrivate(field.getModifiers()));
        }
        staticFieldsAreFinal(FixedPress.class);
        for (Class<?> inside : FixedPress.class.getDeclaredClasses()) {
            CHECK.isTrue(inside + " is static and not public", Modifier.isStatic(inside.getModifiers())
                    && !Modifier.isPublic(inside.getModifiers()) && !Modifier.isProtected(inside.getModifiers()));
            staticFieldsAreFinal(inside);
            noNameOfTheFace(inside);
        }
        CHECK.end();
    }

    private static void face() {
        Set<String> due = new TreeSet<>(Arrays.asList(
                "FixedPress() throws",
                "int feed(int int int int int) throws IndexOutOfBoundsException",
                "int end(int) throws IllegalArgumentException",
                "int fill(int int int) throws IllegalArgumentException IndexOutOfBoundsException",
                "int pack() throws",
                "int open(int) throws IllegalArgumentException UnsupportedOperationException",
                "int back() throws IndexOutOfBoundsException",
                "int patch(int int) throws IllegalArgumentException",
                "int sum() throws",
                "long word(int) throws IndexOutOfBoundsException",
                "int count(int) throws IllegalArgumentException"));
        Set<String> got = new TreeSet<>();
        for (Constructor<?> constructor : FixedPress.class.getDeclaredConstructors()) {
            got.add("FixedPress" + signature(constructor));
        }
        for (Method method : FixedPress.class.getDeclaredMethods()) {
            if (!Modifier.isPrivate(method.getModifiers())) {
                got.add(method.getReturnType().getSimpleName() + " " + method.getName() + signature(method));
            }
        }
        CHECK.isTrue("the face " + got, got.equals(due));
    }

    private static String signature(Executable executable) {
        StringBuilder text = new StringBuilder("(");
        for (Class<?> type : executable.getParameterTypes()) {
            text.append(text.length() > 1 ? " " : "").append(type.getSimpleName());
        }
        text.append(") throws");
        for (Class<?> type : executable.getExceptionTypes()) {
            text.append(" ").append(type.getSimpleName());
        }
        return text.toString();
    }

    private static void staticFieldsAreFinal(Class<?> type) {
        for (Field field : type.getDeclaredFields()) {
            CHECK.isTrue(field + " is final", !Modifier.isStatic(field.getModifiers())
                    || Modifier.isFinal(field.getModifiers()));
        }
    }

    private static void noNameOfTheFace(Class<?> type) {
        for (Method method : type.getDeclaredMethods()) {
            for (Method face : FixedPress.class.getMethods()) {
                CHECK.isTrue(method + " has a name of its own", face.getDeclaringClass() != FixedPress.class
                        || !face.getName().equals(method.getName()));
            }
        }
    }
}
