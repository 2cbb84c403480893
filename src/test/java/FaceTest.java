import java.lang.reflect.Constructor;
import java.lang.reflect.Field;
import java.lang.reflect.Method;
import java.lang.reflect.Modifier;
import java.util.Set;
import java.util.TreeSet;

/** The class has the document's face and nothing more. */
public final class FaceTest {
    private static final String[] FACE = {
        "int block() IllegalStateException",
        "int count(int)",
        "int fault()",
        "int feed(int int int int int)",
        "int fit(int int) IndexOutOfBoundsException IllegalArgumentException",
        "int go(int) IndexOutOfBoundsException",
        "int late(int)",
        "int misfit(int int) IndexOutOfBoundsException IllegalArgumentException",
        "int order(int int int) IllegalArgumentException",
        "int planned(int)",
        "int push(int) IllegalArgumentException",
        "int run()",
        "int told(int int) IndexOutOfBoundsException IllegalArgumentException",
        "int wait(int) IllegalArgumentException",
        "int wear(int int) IndexOutOfBoundsException IllegalArgumentException",
        "long plan()",
    };

    public static void main(String[] args) {
        Check.due("NONE", HatWorks.NONE, -1);
        Set<String> face = new TreeSet<>();
        Set<String> names = new TreeSet<>();
        for (Method m : HatWorks.class.getDeclaredMethods()) {
            if (!Modifier.isPrivate(m.getModifiers()) && !m.isSynthetic()) {
                face.add(shape(m));
                names.add(m.getName());
            }
        }
        Check.due("methods", face.equals(new TreeSet<>(Set.of(FACE))) ? 1 : 0, 1);
        for (Method m : HatWorks.class.getDeclaredMethods()) {
            boolean hidden = Modifier.isPrivate(m.getModifiers());
            Check.due("private " + m.getName(), hidden && names.contains(m.getName()) ? 1 : 0, 0);
        }
        for (Field f : HatWorks.class.getDeclaredFields()) {
            boolean open = !Modifier.isPrivate(f.getModifiers()) && !f.getName().equals("NONE");
            Check.due("open field " + f.getName(), open ? 1 : 0, 0);
        }
        int made = 0;
        for (Constructor<?> c : HatWorks.class.getDeclaredConstructors()) {
            made += Modifier.isPublic(c.getModifiers()) && c.getParameterCount() == 0 ? 1 : 100;
        }
        Check.due("constructors", made, 1);
        int shown = Modifier.PUBLIC | Modifier.FINAL;
        Check.due("public final", HatWorks.class.getModifiers() & shown, shown);
        Check.end();
    }

    private static String shape(Method m) {
        StringBuilder text = new StringBuilder();
        text.append(m.getReturnType()).append(' ').append(m.getName()).append('(');
        String gap = "";
        for (Class<?> c : m.getParameterTypes()) {
            text.append(gap).append(c);
            gap = " ";
        }
        text.append(')');
        for (Class<?> c : m.getExceptionTypes()) {
            text.append(' ').append(c.getSimpleName());
        }
        return text.toString();
    }
}
