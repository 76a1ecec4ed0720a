import java.lang.reflect.InvocationTargetException;
import java.lang.reflect.Method;
import java.util.Arrays;
import java.util.Comparator;
import java.util.Objects;
import java.util.Set;
import java.util.TreeSet;

/** Counts checks and prints those that fail; and the few ways in which all tests use the class. */
final class Checks {
    interface Call { Object get(); }

    static final int PROMISES = 22;

    private int passed = 0, failed = 0;
    private String test = "";

    /** Checks that follow belong to the test of this name. */
    void under(String name) { test = name + ": "; }

    void same(String what, Object got, Object want) {
        if (Objects.equals(got, want)) { passed++; return; }
        failed++;
        if (failed <= 50) System.out.println("FAILED " + test + what + ": got " + got + ", due is " + want);
    }

    /** An exception is due, of just this class. */
    void refused(String what, Class<? extends RuntimeException> due, Call call) {
        same(what, answer(call), "throws." + due.getSimpleName());
    }

    static Object answer(Call call) {
        try { return call.get(); }
        catch (RuntimeException e) { return "throws." + e.getClass().getSimpleName(); }
    }

    /** Runs each method of an object that is named after a number (promise02_.., rule11_..): which numbers there were. */
    Set<Integer> runAll(Object tests, String word) throws IllegalAccessException {
        Set<Integer> numbers = new TreeSet<>();
        Method[] methods = tests.getClass().getDeclaredMethods();
        Arrays.sort(methods, Comparator.comparing(Method::getName));
        for (Method m : methods) {
            if (!m.getName().matches(word + "\\d\\d_.*")) continue;
            numbers.add(Integer.parseInt(m.getName().substring(word.length(), word.length() + 2)));
            m.setAccessible(true);
            run(tests, m);
        }
        return numbers;
    }

    private void run(Object tests, Method m) throws IllegalAccessException {
        under(m.getName());
        try {
            m.invoke(tests);
        } catch (InvocationTargetException e) {
            same("ends by itself", e.getCause().toString(), "no exception");
        }
    }

    /** Runs the tests of all promises; each promise must have one. */
    void runPromises(Object tests) throws IllegalAccessException {
        Set<Integer> numbers = runAll(tests, "promise");
        under("all promises");
        for (int p = 1; p <= PROMISES; p++) same("promise " + p + " has tests", numbers.contains(p), true);
    }

    int end(String name) {
        System.out.println(name + ":");
        System.out.println(passed + " passed, " + failed + " failed");
        return failed == 0 ? 0 : 1;
    }

    static void feed(RingSearch x, String text) {
        for (int i = 0; i < text.length(); i += 8) {
            String piece = text.substring(i, Math.min(text.length(), i + 8));
            long bytes = 0;
            for (int j = 0; j < piece.length(); j++) bytes = bytes << 8 | piece.charAt(j) & 255;
            x.feed(bytes, piece.length());
        }
    }

    static int read(RingSearch x, String text) { feed(x, text); return x.read(); }

    static int pattern(RingSearch x, String text) { feed(x, text); return x.pattern(); }

    static RingSearch molecule(String text) {
        RingSearch x = new RingSearch();
        int got = read(x, text);
        if (got < 0) throw new IllegalStateException("the test's own line has a fault: " + text + " " + got + " " + x.fault());
        return x;
    }

    static String written(RingSearch x) {
        int n = x.write();
        if (n < 0) return null;
        StringBuilder out = new StringBuilder();
        for (int i = 0; i < n; i++) out.append((char) x.written(i));
        return out.toString();
    }
}
