import java.lang.reflect.Constructor;
import java.lang.reflect.Field;
import java.lang.reflect.Method;
import java.lang.reflect.Modifier;
import java.util.Arrays;
import java.util.TreeSet;

/** The public face, to the letter of the document. */
final class FaceTest {
    private static final String[] FACE = {
        "int fleet(int) IllegalArgumentException",
        "int setPatience(int, int) IndexOutOfBoundsException IllegalArgumentException",
        "int go(int, int) IndexOutOfBoundsException",
        "boolean sink(int) IndexOutOfBoundsException",
        "int write(int, int) IndexOutOfBoundsException IllegalArgumentException IllegalStateException",
        "int pass(int) IllegalArgumentException",
        "int told(int, int) IndexOutOfBoundsException",
        "int entry(int, int, int) IndexOutOfBoundsException",
        "int agree(int, int) IndexOutOfBoundsException",
        "boolean newer(int, int) IndexOutOfBoundsException",
        "int leader()",
        "int count(int) IndexOutOfBoundsException",
        "int harbour(int, int) IndexOutOfBoundsException",
        "int until()",
        "int foresee(int, int) IllegalArgumentException IndexOutOfBoundsException",
        "int advise(int, int) IndexOutOfBoundsException IllegalArgumentException IllegalStateException",
        "double mean()",
        "long digest()",
    };

    static void run(Checks c) {
        Class<?> face = FleetTerms.class;
        c.same("the class is public and final", face.getModifiers(), Modifier.PUBLIC | Modifier.FINAL);
        TreeSet<String> got = new TreeSet<>();
        for (Method m : face.getDeclaredMethods()) {
            if (Modifier.isPrivate(m.getModifiers())) {
                continue;
            }
            c.same(m.getName() + " is public and no more", m.getModifiers(), Modifier.PUBLIC);
            got.add(written(m));
        }
        c.same("the methods", got.toString(), new TreeSet<>(Arrays.asList(FACE)).toString());
        Constructor<?>[] made = face.getDeclaredConstructors();
        c.same("constructors", made.length, 1);
        c.same("the constructor's parameters", made[0].getParameterCount(), 0);
        c.same("the constructor's exceptions", made[0].getExceptionTypes().length, 0);
        c.same("the constructor is public", made[0].getModifiers(), Modifier.PUBLIC);
        for (Field f : face.getDeclaredFields()) {
            c.same("the field " + f.getName() + " is private", Modifier.isPrivate(f.getModifiers()), true);
            c.same("the field " + f.getName() + " is final", Modifier.isFinal(f.getModifiers()), true);
        }
    }

    private static String written(Method m) {
        StringBuilder s = new StringBuilder(m.getReturnType().getName() + " " + m.getName() + "(");
        for (int i = 0; i < m.getParameterCount(); i++) {
            s.append(i == 0 ? "" : ", ").append(m.getParameterTypes()[i].getName());
        }
        s.append(")");
        for (Class<?> e : m.getExceptionTypes()) {
            s.append(" ").append(e.getSimpleName());
        }
        return s.toString();
    }
}
