import java.lang.reflect.Constructor;
import java.lang.reflect.Field;
import java.lang.reflect.Method;
import java.lang.reflect.Modifier;
import java.util.Arrays;
import java.util.Set;
import java.util.TreeSet;

/** The face is the document's, and nothing else of the class can be seen from outside. */
public final class FaceTest {
    private static final String[] FACE = {
        "int ring(int) IllegalStateException IllegalArgumentException",
        "int series() IllegalStateException",
        "int evened(int,int) IndexOutOfBoundsException",
        "int place(int,int) IndexOutOfBoundsException IllegalArgumentException",
        "int master(int) IllegalStateException IllegalArgumentException",
        "int about(int,int) IndexOutOfBoundsException",
        "int at(int,int) IndexOutOfBoundsException",
        "int depth(int,int) IndexOutOfBoundsException",
        "int leftOut(int,int,int) IndexOutOfBoundsException",
        "int distance(int,int,int,int) IndexOutOfBoundsException",
        "int date(int,int,int) IndexOutOfBoundsException IllegalArgumentException",
        "boolean agrees(int,int,int) IndexOutOfBoundsException IllegalArgumentException",
        "int source(int,int,int) IndexOutOfBoundsException IllegalArgumentException",
        "int sapwood(int,int) IllegalArgumentException",
        "int felling(int,int,int,int) IndexOutOfBoundsException IllegalStateException"
            + " IllegalArgumentException",
        "boolean sameTree(int,int) IndexOutOfBoundsException",
        "int count(int) IndexOutOfBoundsException",
    };

    private static int wrong = 0;

    private static void check(String what, boolean holds) {
        if (!holds) {
            wrong++;
            System.out.println("not so: " + what);
        }
    }

    private static String written(Method m) {
        StringBuilder text = new StringBuilder();
        text.append(m.getReturnType()).append(' ').append(m.getName()).append('(');
        for (int i = 0; i < m.getParameterCount(); i++) {
            text.append(i == 0 ? "" : ",").append(m.getParameterTypes()[i]);
        }
        text.append(')');
        for (Class<?> e : m.getExceptionTypes()) {
            text.append(' ').append(e.getSimpleName());
        }
        return text.toString();
    }

    public static void main(String[] args) {
        Class<?> face = RingMasters.class;
        check("public and final", face.getModifiers() == (Modifier.PUBLIC | Modifier.FINAL));
        Set<String> seen = new TreeSet<>();
        Set<String> publicNames = new TreeSet<>();
        for (Method m : face.getDeclaredMethods()) {
            if (!Modifier.isPrivate(m.getModifiers())) {
                check(m + " is public alone", m.getModifiers() == Modifier.PUBLIC);
                seen.add(written(m));
                publicNames.add(m.getName());
            }
        }
        Set<String> due = new TreeSet<>(Arrays.asList(FACE));
        check("methods " + seen + ", due are " + due, seen.equals(due));
        for (Method m : face.getDeclaredMethods()) {
            check(m + " has a name of its own",
                !Modifier.isPrivate(m.getModifiers()) || !publicNames.contains(m.getName()));
        }
        for (Constructor<?> c : face.getDeclaredConstructors()) {
            check(c + " is the public one without parameters",
                c.getParameterCount() == 0 && c.getModifiers() == Modifier.PUBLIC);
        }
        fields(face);
        for (Class<?> inside : face.getDeclaredClasses()) {
            check(inside + " is static and not public", Modifier.isStatic(inside.getModifiers())
                && !Modifier.isPublic(inside.getModifiers())
                && !Modifier.isProtected(inside.getModifiers()));
            fields(inside);
        }
        System.out.println(wrong == 0 ? "the face is as due" : wrong + " things are not as due");
        if (wrong != 0) {
            System.exit(1);
        }
    }

    private static void fields(Class<?> of) {
        for (Field f : of.getDeclaredFields()) {
            boolean none = f.getName().equals("NONE");
            int due = Modifier.PUBLIC | Modifier.STATIC | Modifier.FINAL;
            check(f + " is private, or NONE",
                none ? f.getModifiers() == due : Modifier.isPrivate(f.getModifiers()));
            check(f + " is final if static",
                !Modifier.isStatic(f.getModifiers()) || Modifier.isFinal(f.getModifiers()));
        }
    }
}
