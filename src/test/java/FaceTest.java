import java.lang.reflect.Constructor;
import java.lang.reflect.Field;
import java.lang.reflect.Member;
import java.lang.reflect.Method;
import java.lang.reflect.Modifier;
import java.util.Arrays;
import java.util.Set;
import java.util.TreeSet;

/** The class has the face of the document and no other. */
public final class FaceTest {
    private static final Set<String> FACE = new TreeSet<>(Arrays.asList(
        "int atom(int) IllegalArgumentException UnsupportedOperationException",
        "int bond(int,int,int) IndexOutOfBoundsException IllegalArgumentException UnsupportedOperationException",
        "int cut(int) IndexOutOfBoundsException",
        "int atomTold(int,int) IndexOutOfBoundsException IllegalArgumentException",
        "int bondTold(int,int) IndexOutOfBoundsException IllegalArgumentException",
        "int between(int,int) IndexOutOfBoundsException",
        "long ring(int) IndexOutOfBoundsException",
        "int ringAtom(int,int) IndexOutOfBoundsException",
        "int cycles(int) IllegalArgumentException",
        "boolean isSum(long)",
        "int feed(long,int) IllegalArgumentException UnsupportedOperationException",
        "int read()",
        "int pattern()",
        "int fault()",
        "int write()",
        "int written(int) IndexOutOfBoundsException",
        "int search()",
        "int place(int,int) IndexOutOfBoundsException",
        "int sets()",
        "int told(int) IllegalArgumentException",
        "void clear()"));

    public static void main(String[] args) throws Exception {
        Checks c = new Checks();
        Class<?> face = RingSearch.class;
        c.same("public and final", Modifier.isPublic(face.getModifiers()) && Modifier.isFinal(face.getModifiers()), true);
        Set<String> methods = new TreeSet<>();
        Set<String> names = new TreeSet<>();
        for (Method m : face.getDeclaredMethods()) {
            if (Modifier.isPrivate(m.getModifiers())) continue;
            c.same("public " + m.getName(), Modifier.isPublic(m.getModifiers()) && !Modifier.isStatic(m.getModifiers()), true);
            methods.add(told(m));
            names.add(m.getName());
        }
        c.same("methods", methods, FACE);
        for (Field f : face.getDeclaredFields()) if (!Modifier.isPrivate(f.getModifiers())) c.same("field", f.getName(), "NONE");
        Field none = face.getField("NONE");
        c.same("NONE", none.getType() + " " + Modifier.toString(none.getModifiers()), "int public static final");
        for (Constructor<?> k : face.getDeclaredConstructors()) c.same("constructor", k.toString(), "public RingSearch()");
        privateNames(c, face, names);
        for (Class<?> inside : face.getDeclaredClasses()) {
            c.same("inside " + inside, Modifier.isStatic(inside.getModifiers()) && !Modifier.isPublic(inside.getModifiers()), true);
            privateNames(c, inside, names);
        }
        System.exit(c.end("FaceTest"));
    }

    private static void privateNames(Checks c, Class<?> of, Set<String> taken) {
        for (Method m : of.getDeclaredMethods())
            if (!isPublic(m)) c.same("a name of the face at " + of + " " + m.getName(), taken.contains(m.getName()), false);
    }

    private static boolean isPublic(Member m) { return Modifier.isPublic(m.getModifiers()); }

    private static String told(Method m) {
        StringBuilder out = new StringBuilder(m.getReturnType() + " " + m.getName() + "(");
        for (int i = 0; i < m.getParameterCount(); i++) out.append(i > 0 ? "," : "").append(m.getParameterTypes()[i]);
        out.append(")");
        for (Class<?> e : m.getExceptionTypes()) out.append(" ").append(e.getSimpleName());
        return out.toString();
    }
}
