import java.lang.reflect.Constructor;
import java.lang.reflect.Field;
import java.lang.reflect.Method;
import java.lang.reflect.Modifier;
import java.util.List;
import java.util.Set;
import java.util.TreeSet;

/** The class has the face of the document, each promise its call, and no other. */
public final class FaceTest {
    /** Promise 1 is the constructor; the calls of the promises behind it, by their numbers. */
    private static final List<String> CALLS = List.of(
        "int atom(int) IllegalArgumentException UnsupportedOperationException",
        "int bond(int,int,int) IndexOutOfBoundsException IllegalArgumentException UnsupportedOperationException",
        "int cut(int) IndexOutOfBoundsException",
        "int atomTold(int,int) IndexOutOfBoundsException IllegalArgumentException",
        "int bondTold(int,int) IndexOutOfBoundsException IllegalArgumentException",
        "int between(int,int) IndexOutOfBoundsException",
        "long ring(int) IndexOutOfBoundsException",
        "int ringAtom(int,int) IndexOutOfBoundsException",
        "int cycles(int) IllegalArgumentException",
        "boolean isSum(long)",
        "int feed(long,int) IllegalArgumentException UnsupportedOperationException",
        "int read()",
        "int pattern()",
        "int fault()",
        "int write()",
        "int written(int) IndexOutOfBoundsException",
        "int search()",
        "int place(int,int) IndexOutOfBoundsException",
        "int sets()",
        "int told(int) IllegalArgumentException",
        "void clear()");

    private final Checks c = new Checks();
    private final Class<?> face = RingSearch.class;

    public static void main(String[] args) throws Exception {
        FaceTest t = new FaceTest();
        t.c.runAll(t, "promise");
        t.eachCall();
        t.c.runAll(t, "rule");
        System.exit(t.c.end("FaceTest"));
    }

    private void promise01_face() throws Exception {
        c.same("public and final", Modifier.toString(face.getModifiers()), "public final");
        c.same("constructors", face.getDeclaredConstructors().length, 1);
        for (Constructor<?> k : face.getDeclaredConstructors()) c.same("constructor", k.toString(), "public RingSearch()");
        Field none = face.getField("NONE");
        c.same("NONE", none.getType() + " " + Modifier.toString(none.getModifiers()), "int public static final");
        c.same("its number", none.getInt(null), -1);
        c.same("no package", face.getPackageName(), "");
    }

    private void eachCall() {
        Set<String> there = new TreeSet<>();
        for (Method m : face.getDeclaredMethods()) if (Modifier.isPublic(m.getModifiers())) there.add(told(m));
        for (int i = 0; i < CALLS.size(); i++) {
            c.under(String.format("promise%02d_face", i + 2));
            c.same("the call", there.contains(CALLS.get(i)), true);
        }
    }

    private void rule01_no_other_member_is_open() {
        Set<String> open = new TreeSet<>();
        for (Method m : face.getDeclaredMethods()) if (!Modifier.isPrivate(m.getModifiers())) open.add(told(m));
        c.same("methods", open, new TreeSet<>(CALLS));
        for (Field f : face.getDeclaredFields()) if (!Modifier.isPrivate(f.getModifiers())) c.same("field", f.getName(), "NONE");
        for (Class<?> inside : face.getDeclaredClasses()) {
            int m = inside.getModifiers();
            c.same("class inside: " + inside, Modifier.isStatic(m) && !Modifier.isPublic(m) && !Modifier.isProtected(m), true);
        }
    }

    private void rule01_no_private_method_bears_a_name_of_the_face() {
        Set<String> names = new TreeSet<>();
        for (Method m : face.getDeclaredMethods()) if (Modifier.isPublic(m.getModifiers())) names.add(m.getName());
        for (Method m : face.getDeclaredMethods())
            if (!Modifier.isPublic(m.getModifiers())) c.same(m.getName(), names.contains(m.getName()), false);
        for (Class<?> inside : face.getDeclaredClasses())
            for (Method m : inside.getDeclaredMethods()) c.same(inside + " " + m.getName(), names.contains(m.getName()), false);
    }

    private static String told(Method m) {
        StringBuilder out = new StringBuilder();
        if (Modifier.isStatic(m.getModifiers())) out.append("static ");
        out.append(m.getReturnType()).append(' ').append(m.getName()).append('(');
        for (int i = 0; i < m.getParameterCount(); i++) out.append(i > 0 ? "," : "").append(m.getParameterTypes()[i]);
        out.append(")");
        for (Class<?> e : m.getExceptionTypes()) out.append(" ").append(e.getSimpleName());
        return out.toString();
    }
}
