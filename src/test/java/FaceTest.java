import java.lang.reflect.Constructor;
import java.lang.reflect.Executable;
import java.lang.reflect.Field;
import java.lang.reflect.Method;
import java.lang.reflect.Modifier;
import java.util.Set;
import java.util.TreeSet;

/** The public face: every member that the document names, with its exceptions, and no other. */
public final class FaceTest {
    private static final String[] FACE = {
        "TramRibbon()",
        "int build(int) IllegalArgumentException IllegalStateException",
        "int setSlope(int, int) IndexOutOfBoundsException IllegalArgumentException",
        "int cut(int) IndexOutOfBoundsException IllegalStateException",
        "int setBound(int, int) IndexOutOfBoundsException IllegalArgumentException",
        "int depot(int, int) IndexOutOfBoundsException IllegalArgumentException IllegalStateException",
        "int come(int, int) IndexOutOfBoundsException IllegalArgumentException",
        "int put(int, boolean, int) IndexOutOfBoundsException IllegalArgumentException IllegalStateException",
        "int pole(int, int) IndexOutOfBoundsException",
        "int sectionOf(int) IndexOutOfBoundsException",
        "int section(int, int) IndexOutOfBoundsException",
        "int car(int, int) IndexOutOfBoundsException",
        "int pass(int) IllegalArgumentException",
        "int count(int) IndexOutOfBoundsException",
        "int next(int) IndexOutOfBoundsException",
        "int needs(int, int) IndexOutOfBoundsException IllegalArgumentException",
        "int advise(int) IllegalArgumentException",
        "int foresee(int, int) IllegalArgumentException IndexOutOfBoundsException",
        "double mean()",
        "long digest()",
    };

    public static void main(String[] args) {
        Set<String> due = new TreeSet<>(Set.of(FACE));
        Set<String> found = new TreeSet<>();
        Set<String> names = new TreeSet<>();
        for (Constructor<?> c : TramRibbon.class.getDeclaredConstructors()) {
            found.add("TramRibbon" + tail(c));
        }
        for (Method m : TramRibbon.class.getDeclaredMethods()) {
            if (!Modifier.isPrivate(m.getModifiers()) && !m.isSynthetic()) {
                found.add(m.getReturnType() + " " + m.getName() + tail(m));
                names.add(m.getName());
            }
        }
        if (!found.equals(due)) {
            Check.fault("the face is " + found + ", due is " + due);
        }
        for (Method m : TramRibbon.class.getDeclaredMethods()) {
            if (Modifier.isPrivate(m.getModifiers()) && names.contains(m.getName())) {
                Check.fault("a private method bears the name of a public one: " + m.getName());
            }
        }
        for (Field f : TramRibbon.class.getDeclaredFields()) {
            if (!Modifier.isPrivate(f.getModifiers()) && !f.isSynthetic()) {
                Check.fault("a field that is not private: " + f.getName());
            }
        }
        int kind = TramRibbon.class.getModifiers();
        Check.due("the class is public and final", kind & (Modifier.PUBLIC | Modifier.FINAL), Modifier.PUBLIC | Modifier.FINAL);
        Check.end("FaceTest");
    }

    private static String tail(Executable e) {
        StringBuilder text = new StringBuilder("(");
        for (Class<?> c : e.getParameterTypes()) {
            text.append(text.length() > 1 ? ", " : "").append(c.getSimpleName());
        }
        text.append(")");
        for (Class<?> c : e.getExceptionTypes()) {
            text.append(" ").append(c.getSimpleName());
        }
        return text.toString();
    }
}
