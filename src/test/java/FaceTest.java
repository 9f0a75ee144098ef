import java.lang.reflect.Constructor;
import java.lang.reflect.Field;
import java.lang.reflect.Method;
import java.lang.reflect.Modifier;
import java.util.Arrays;
import java.util.Set;
import java.util.TreeSet;

/** The public face: the document's members with the document's types and exceptions, and no other. */
public final class FaceTest {
    private static final Set<String> DUE = new TreeSet<>(Arrays.asList(
            "void key(int,int,int,int,int) IndexOutOfBoundsException",
            "int feed(int,int) IllegalArgumentException IllegalStateException",
            "void drop()",
            "void alter(int,int) IndexOutOfBoundsException IllegalArgumentException",
            "int item() IllegalArgumentException IllegalStateException",
            "int forget()",
            "void cipher(boolean) IllegalArgumentException",
            "void mark(boolean)",
            "int seal(int) IndexOutOfBoundsException IllegalArgumentException",
            "int open(int) IndexOutOfBoundsException IllegalArgumentException",
            "int size()",
            "int at(int) IndexOutOfBoundsException",
            "int take()"));

    public static void main(String[] args) {
        Check check = new Check();
        int type = SealingDesk.class.getModifiers();
        check.same("public and final", type & (Modifier.PUBLIC | Modifier.FINAL), Modifier.PUBLIC | Modifier.FINAL);
        check.same("NONE", SealingDesk.NONE, -1);
        Set<String> methods = new TreeSet<>();
        for (Method method : SealingDesk.class.getDeclaredMethods()) {
            if (!Modifier.isPrivate(method.getModifiers()) && !method.isSynthetic()) {
                check.same(method + " is public and not static",
                        method.getModifiers() & (Modifier.PUBLIC | Modifier.STATIC), Modifier.PUBLIC);
                methods.add(describe(method));
            }
        }
        if (!methods.equals(DUE)) {
            check.fail("the methods are " + methods);
        }
        for (Field field : SealingDesk.class.getDeclaredFields()) {
            if (!Modifier.isPrivate(field.getModifiers()) && !field.getName().equals("NONE")) {
                check.fail("a field that is not private: " + field);
            }
        }
        Constructor<?>[] made = SealingDesk.class.getDeclaredConstructors();
        check.same("constructors", made.length, 1);
        check.same("parameters of the constructor", made[0].getParameterCount(), 0);
        check.end();
    }

    private static String describe(Method method) {
        StringBuilder text = new StringBuilder();
        text.append(method.getReturnType()).append(' ').append(method.getName()).append('(');
        String comma = "";
        for (Class<?> parameter : method.getParameterTypes()) {
            text.append(comma).append(parameter);
            comma = ",";
        }
        text.append(')');
        for (Class<?> thrown : method.getExceptionTypes()) {
            text.append(' ').append(thrown.getSimpleName());
        }
        return text.toString();
    }
}
