import java.lang.reflect.Constructor;
import java.lang.reflect.Executable;
import java.lang.reflect.Field;
import java.lang.reflect.Method;
import java.lang.reflect.Modifier;
import java.util.Set;
import java.util.TreeSet;

/** The public face: every member that the document names, with its exceptions, and no other (LANGUAGE.md, rule 1). */
public final class FaceTest {
    private static final String[] FACE = {
        "TramRibbon()",
        "int build(int) IllegalArgumentException IllegalStateException",
        "int setSlope(int, int) IndexOutOfBoundsException IllegalArgumentException",
        "int cut(int) IndexOutOfBoundsException IllegalStateException",
        "int setBound(int, int) IndexOutOfBoundsException IllegalArgumentException",
        "int depot(int, int) IndexOutOfBoundsException IllegalArgumentException IllegalStateException",
        "int come(int, int) IndexOutOfBoundsException IllegalArgumentException",
        "int put(int, boolean, int) IndexOutOfBoundsException IllegalArgumentException IllegalStateException",
        "int pole(int, int) IndexOutOfBoundsException",
        "int sectionOf(int) IndexOutOfBoundsException",
        "int section(int, int) IndexOutOfBoundsException",
        "int car(int, int) IndexOutOfBoundsException",
        "int pass(int) IllegalArgumentException",
        "int count(int) IndexOutOfBoundsException",
        "int next(int) IndexOutOfBoundsException",
        "int needs(int, int) IndexOutOfBoundsException IllegalArgumentException",
        "int advise(int) IllegalArgumentException",
        "int foresee(int, int) IllegalArgumentException IndexOutOfBoundsException",
        "double mean()",
        "long digest()",
    };

    public static void main(String[] args) {
        Set<String> names = checkMembers();
        checkFields();
        checkTheClass();
        checkNoPrivateNamesake(TramRibbon.class, names);
        for (Class<?> inside : TramRibbon.class.getDeclaredClasses()) {
            checkInside(inside);
            checkNoPrivateNamesake(inside, names);
        }
        Check.end("FaceTest");
    }

    /** The tests stand in the same package as the class: they would find a member that is not public, too. */
    private static Set<String> checkMembers() {
        Set<String> due = new TreeSet<>(Set.of(FACE));
        Set<String> found = new TreeSet<>();
        Set<String> names = new TreeSet<>();
        for (Constructor<?> c : TramRibbon.class.getDeclaredConstructors()) {
            found.add("TramRibbon" + tail(c));
            Check.due("the constructor is public, and nothing else", c.getModifiers(), Modifier.PUBLIC);
        }
        for (Method m : TramRibbon.class.getDeclaredMethods()) {
            if (!Modifier.isPrivate(m.getModifiers()) && !m.isSynthetic()) {
                found.add(m.getReturnType() + " " + m.getName() + tail(m));
                names.add(m.getName());
                Check.due(m.getName() + " is public, and nothing else", m.getModifiers(), Modifier.PUBLIC);
            }
        }
        if (!found.equals(due)) {
            Check.fault("the face is " + found + ", due is " + due);
        }
        return names;
    }

    private static void checkFields() {
        for (Field f : TramRibbon.class.getDeclaredFields()) {
            if (!Modifier.isPrivate(f.getModifiers()) && !f.isSynthetic()) {
                Check.fault("a field that is not private: " + f.getName());
            }
        }
    }

    private static void checkTheClass() {
        Class<?> face = TramRibbon.class;
        Check.due("the class is public and final", face.getModifiers(), Modifier.PUBLIC | Modifier.FINAL);
        Check.dueText("the class with its package", face.getName(), "TramRibbon");
        Check.dueText("the class above it", face.getSuperclass().getName(), "java.lang.Object");
        Check.due("interfaces that it has", face.getInterfaces().length, 0);
    }

    private static void checkInside(Class<?> inside) {
        int kind = inside.getModifiers();
        if (Modifier.isPublic(kind) || Modifier.isProtected(kind) || !Modifier.isStatic(kind)) {
            Check.fault("a class inside that is not private or package-visible and static: " + inside.getName());
        }
    }

    private static void checkNoPrivateNamesake(Class<?> in, Set<String> names) {
        for (Method m : in.getDeclaredMethods()) {
            if (Modifier.isPrivate(m.getModifiers()) && names.contains(m.getName())) {
                Check.fault("a private method bears the name of a public one: " + in.getName() + "." + m.getName());
            }
        }
    }

    private static String tail(Executable e) {
        StringBuilder text = new StringBuilder("(");
        for (Class<?> c : e.getParameterTypes()) {
            text.append(text.length() > 1 ? ", " : "").append(c.getSimpleName());
        }
        text.append(")");
        for (Class<?> c : e.getExceptionTypes()) {
            text.append(" ").append(c.getSimpleName());
        }
        return text.toString();
    }
}
