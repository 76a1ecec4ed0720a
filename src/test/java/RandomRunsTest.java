import java.util.ArrayList;
import java.util.List;
import java.util.Random;

/** Random inputs, the same at each run, against the oracle. */
public final class RandomRunsTest {
    private static final String BYTES = "abcp-=#:()123456789.?[]!~*@/q0 ";

    private final Checks c = new Checks();
    private final Random random = new Random(20261115);

    public static void main(String[] args) {
        RandomRunsTest t = new RandomRunsTest();
        for (int i = 0; i < 60000; i++) t.line(i);
        for (int i = 0; i < 1500; i++) t.molecule(i);
        for (int i = 0; i < 1500; i++) t.changes(i);
        System.exit(t.c.end("RandomRunsTest"));
    }

    // ---- lines

    private void line(int i) {
        boolean pattern = i % 2 == 0;
        String text = i % 5 == 0 ? bigLine(pattern) : spoilt(randomLine(pattern));
        if (text.length() > 200) text = text.substring(0, 200);
        Oracle.Line due = Oracle.parse(text, pattern);
        RingSearch x = new RingSearch();
        Checks.feed(x, text);
        int got = pattern ? x.pattern() : x.read();
        String name = (pattern ? "pattern " : "line ") + text;
        c.same(name, got, due.fault != 0 ? -1 - due.place : due.net.labels.size());
        c.same(name + " fault", x.fault(), due.fault);
        c.same(name + " tape", x.told(9), due.fault != 0 ? text.length() : 0);
        if (due.fault != 0) return;
        c.same(name + " bonds", x.told(pattern ? 7 : 1), due.net.bonds.size());
        if (!pattern) sameNet(name, x, due.net);
    }

    private void sameNet(String name, RingSearch x, Oracle.Net g) {
        for (int a = 0; a < g.labels.size(); a++) c.same(name + " label " + a, x.atomTold(a, 0), g.labels.get(a));
        for (int k = 0; k < g.bonds.size(); k++) {
            Oracle.Bond b = g.bonds.get(k);
            c.same(name + " bond " + k, x.bondTold(k, 1) + " " + x.bondTold(k, 2) + " " + x.bondTold(k, 0), b.a + " " + b.b + " " + b.sort);
        }
    }

    private String randomLine(boolean pattern) {
        StringBuilder out = new StringBuilder();
        int lines = pattern ? 1 : 1 + random.nextInt(3) / 2;
        for (int i = 0; i < lines; i++) {
            if (i > 0) out.append('.');
            randomChain(pattern, out, 0, 1 + random.nextInt(pattern ? 7 : 12));
        }
        return out.toString();
    }

    private void randomChain(boolean pattern, StringBuilder out, int depth, int atoms) {
        for (int i = 0; i < atoms; i++) {
            if (i > 0 || depth > 0) out.append(randomSign(pattern));
            out.append(randomAtom(pattern));
            while (random.nextInt(3) == 0) out.append(randomSign(pattern)).append(1 + random.nextInt(3));
            while (depth < 9 && random.nextInt(7) == 0) {
                out.append('(');
                randomChain(pattern, out, depth + 1, 1 + random.nextInt(3));
                out.append(')');
            }
        }
    }

    private String randomSign(boolean pattern) {
        if (random.nextInt(3) > 0) return "";
        if (!pattern) return "" + "-=#:".charAt(random.nextInt(4));
        return "" + "-=#:*".charAt(random.nextInt(5)) + new String[] {"", "@", "/"}[random.nextInt(3)];
    }

    private String randomAtom(boolean pattern) {
        if (!pattern || random.nextInt(3) > 0) return "" + (char) ('a' + random.nextInt(3));
        if (random.nextInt(3) == 0) return "?";
        StringBuilder out = new StringBuilder("[");
        if (random.nextInt(2) == 0) out.append('?');
        else for (int n = 1 + random.nextInt(3); n > 0; n--) out.append((char) ('a' + random.nextInt(3)));
        out.append(new String[] {"", "!", "~"}[random.nextInt(3)]);
        if (random.nextInt(2) == 0) out.append('=').append(1 + random.nextInt(4));
        return out.append(']').toString();
    }

    private String spoilt(String text) {
        StringBuilder out = new StringBuilder(text);
        int turns = random.nextInt(3);
        for (int i = 0; i < turns && out.length() > 0; i++) {
            int at = random.nextInt(out.length());
            char byChance = BYTES.charAt(random.nextInt(BYTES.length()));
            switch (random.nextInt(4)) {
                case 0 -> out.deleteCharAt(at);
                case 1 -> out.insert(at, byChance);
                case 2 -> out.setCharAt(at, byChance);
                default -> out.setLength(at);
            }
        }
        return out.toString();
    }

    /** Lines near the limits: many atoms, bonds, branches, and closures that mostly can be. */
    private String bigLine(boolean pattern) {
        int atoms = pattern ? 8 + random.nextInt(4) : 18 + random.nextInt(16);
        int closures = random.nextInt(3), branches = 2 + random.nextInt(12), ends = 1 + random.nextInt(12);
        int[] openAt = new int[10];
        StringBuilder out = new StringBuilder();
        int open = 0;
        for (int i = 1; i <= atoms; i++) {
            out.append(pattern && random.nextInt(9) == 0 ? "[a=1]" : "a");
            for (int n = random.nextInt(closures + 1); n > 0; n--) out.append(bigFigure(openAt, i, random.nextInt(40) == 0));
            if (i == atoms) break;
            while (open > 0 && random.nextInt(ends) == 0) { out.append(')'); open--; }
            if (random.nextInt(branches) < 2) { out.append('('); open++; }
        }
        out.append(")".repeat(open));
        for (int i = atoms + 3, n = 0; n < 6; n++) out.append(random.nextInt(3) == 0 ? "" : "a" + bigFigure(openAt, i, false));
        return out.toString();
    }

    /** A figure that opens a closure, or closes one that an atom some way back has opened. */
    private String bigFigure(int[] openAt, int atom, boolean anyhow) {
        int figure = 1 + random.nextInt(9);
        if (openAt[figure] > atom - 2 && openAt[figure] != 0 && !anyhow) return "";
        openAt[figure] = openAt[figure] == 0 ? atom : 0;
        return "" + figure;
    }

    // ---- molecules

    /** A random molecule, made by calls and in the oracle alike. */
    private Oracle.Net randomNet(RingSearch x, int atoms, int bonds) {
        Oracle.Net g = new Oracle.Net();
        for (int i = 0; i < atoms; i++) addAtom(x, g);
        for (int i = 0; i < bonds; i++) addBond(x, g);
        return g;
    }

    private void addAtom(RingSearch x, Oracle.Net g) {
        int label = random.nextInt(3);
        c.same("atom", x.atom(label), g.labels.size());
        g.labels.add(label);
    }

    private void addBond(RingSearch x, Oracle.Net g) {
        int n = g.labels.size();
        int a = random.nextInt(n + 1), b = random.nextInt(n + 1), sort = random.nextInt(4);
        Object due;
        if (a == n || b == n) due = "throws.IndexOutOfBoundsException";
        else if (a == b || g.find(a, b) >= 0) due = "throws.IllegalArgumentException";
        else if (g.bonds.size() == 40 || g.degree(a) == 6 || g.degree(b) == 6) due = "throws.UnsupportedOperationException";
        else { due = g.bonds.size(); g.bonds.add(new Oracle.Bond(a, b, sort, 0)); }
        c.same("bond", Checks.answer(() -> x.bond(a, b, sort)), due);
    }

    private void molecule(int i) {
        RingSearch x = new RingSearch();
        int atoms = 1 + random.nextInt(i % 3 == 0 ? 32 : 11);
        int bonds = i % 3 == 0 ? atoms + random.nextInt(12) : random.nextInt(3 * atoms);
        Oracle.Net g = randomNet(x, atoms, bonds);
        if (g.bonds.size() - atoms > 13) return;
        allTold("molecule " + i, x, g);
        patterns("molecule " + i, x, g);
    }

    private void allTold(String name, RingSearch x, Oracle.Net g) {
        int n = g.labels.size(), m = g.bonds.size();
        List<Long> cycles = Oracle.cycles(g);
        List<Long> rings = Oracle.rings(cycles);
        int[] parts = Oracle.parts(g), systems = Oracle.systems(g, cycles);
        sameNet(name, x, g);
        c.same(name + " rings", x.told(3), rings.size());
        for (int r = 0; r < rings.size(); r++) sameRing(name, x, g, r, rings.get(r));
        for (int size = 3; size <= 7; size++) {
            int s = size;
            c.same(name + " cycles " + size, x.cycles(size), (int) cycles.stream().filter(y -> Long.bitCount(y) == s).count());
        }
        long inRing = 0;
        for (long y : cycles) inRing |= y;
        for (int k = 0; k < m; k++) {
            int bit = k;
            c.same(name + " bridge", x.bondTold(k, 3), (inRing >> k & 1) != 0 ? 0 : 1);
            c.same(name + " bond's rings", x.bondTold(k, 4), (int) rings.stream().filter(y -> (y >> bit & 1) != 0).count());
            c.same(name + " system", x.bondTold(k, 5), systems[k]);
        }
        c.same(name + " bridges", x.told(4), m - Long.bitCount(inRing));
        c.same(name + " systems", x.told(5), max(systems) + 1);
        c.same(name + " parts", x.told(2), max(parts) + 1);
        for (int a = 0; a < n; a++) {
            int atom = a;
            c.same(name + " degree", x.atomTold(a, 1), g.degree(a));
            c.same(name + " part", x.atomTold(a, 2), parts[a]);
            c.same(name + " atom's rings", x.atomTold(a, 3), (int) rings.stream().filter(y -> Oracle.ringAtoms(g, y).contains(atom)).count());
            c.same(name + " least", x.atomTold(a, 4), leastAt(g, cycles, a));
            int b = random.nextInt(n);
            c.same(name + " between", x.between(a, b), Oracle.between(g, a, b));
        }
        sums(name, x, g, cycles);
        writing(name, x, g);
    }

    private static int max(int[] row) { int m = -1; for (int v : row) m = Math.max(m, v); return m; }

    private static int leastAt(Oracle.Net g, List<Long> cycles, int a) {
        for (long y : cycles)
            for (int k = 0; k < g.bonds.size(); k++) if ((y >> k & 1) != 0 && g.bonds.get(k).has(a)) return Long.bitCount(y);
        return 0;
    }

    private void sameRing(String name, RingSearch x, Oracle.Net g, int r, long ring) {
        c.same(name + " ring " + r, x.ring(r), ring);
        List<Integer> due = Oracle.ringAtoms(g, ring), got = new ArrayList<>();
        for (int j = 0; j < due.size(); j++) got.add(x.ringAtom(r, j));
        c.same(name + " ring's atoms", got, due);
        c.same(name + " ring's end", Checks.answer(() -> x.ringAtom(r, due.size())), "throws.IndexOutOfBoundsException");
    }

    private void sums(String name, RingSearch x, Oracle.Net g, List<Long> cycles) {
        for (int i = 0; i < 5 && !cycles.isEmpty(); i++) {
            long sum = 0;
            for (int n = random.nextInt(5); n > 0; n--) sum ^= cycles.get(random.nextInt(cycles.size()));
            c.same(name + " a sum", x.isSum(sum), true);
            c.same(name + " no sum", x.isSum(sum ^ 1L << random.nextInt(64)), false);
        }
    }

    private void writing(String name, RingSearch x, Oracle.Net g) {
        String due = Oracle.write(g);
        c.same(name + " written", Checks.written(x), due);
        c.same(name + " bytes", x.told(10), due == null ? 0 : due.length());
        if (due == null) return;
        Oracle.Line again = Oracle.parse(due, false);
        if (again.fault == 2) return;
        c.same(name + " read again", again.fault, 0);
        c.same(name + " bonds again", again.net.bonds.size(), g.bonds.size());
        RingSearch y = new RingSearch();
        c.same(name + " atoms again", Checks.read(y, due), g.labels.size());
        sameNet(name + " read again", y, again.net);
        c.same(name + " written again", Checks.written(y) != null, true);
    }

    private void patterns(String name, RingSearch x, Oracle.Net g) {
        List<Long> cycles = Oracle.cycles(g);
        for (int i = 0; i < 4; i++) {
            String text = i == 0 ? "???????".substring(random.nextInt(6)) : randomLine(true);
            Oracle.Line p = Oracle.parse(text, true);
            if (p.fault != 0) continue;
            Checks.pattern(x, text);
            List<int[]> due = Oracle.places(p.net, g, cycles);
            samePlaces(name + " " + text, x, due, p.net.labels.size());
        }
    }

    private void samePlaces(String name, RingSearch x, List<int[]> due, int width) {
        c.same(name + " places", x.search(), due.size());
        int kept = Math.min(2000, due.size());
        c.same(name + " kept", x.told(8), kept);
        for (int i = 0; i < kept; i++)
            for (int q = 0; q < width; q++) if (x.place(i, q) != due.get(i)[q]) c.same(name + " place " + i + " " + q, x.place(i, q), due.get(i)[q]);
        c.same(name + " sets", x.sets(), Oracle.sets(due.subList(0, kept)));
        c.same(name + " no more", Checks.answer(() -> x.place(kept, 0)), "throws.IndexOutOfBoundsException");
    }

    // ---- changes

    /** What is told follows each change, and what was found, written and fed stays. */
    private void changes(int i) {
        RingSearch x = new RingSearch();
        Oracle.Net g = randomNet(x, 2 + random.nextInt(8), random.nextInt(14));
        for (int turn = 0; turn < 12; turn++) {
            switch (random.nextInt(6)) {
                case 0 -> { if (g.labels.size() < 11) addAtom(x, g); }
                case 1, 2 -> addBond(x, g);
                case 3, 4 -> cut(x, g);
                default -> g = anew(x, g);
            }
            if (turn % 3 == 0 && g.bonds.size() - g.labels.size() < 10) allTold("changes " + i, x, g);
            if (turn % 4 == 0 && g.bonds.size() - g.labels.size() < 8) patterns("changes " + i, x, g);
        }
    }

    private void cut(RingSearch x, Oracle.Net g) {
        int k = random.nextInt(g.bonds.size() + 1);
        if (k == g.bonds.size()) { c.same("cut", Checks.answer(() -> x.cut(k)), "throws.IndexOutOfBoundsException"); return; }
        g.bonds.remove(k);
        c.same("cut", x.cut(k), g.bonds.size());
    }

    private Oracle.Net anew(RingSearch x, Oracle.Net g) {
        String text = randomLine(false);
        Oracle.Line line = Oracle.parse(text, false);
        if (line.fault != 0) return g;
        c.same("read anew " + text, Checks.read(x, text), line.net.labels.size());
        return line.net;
    }
}
