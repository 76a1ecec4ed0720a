import java.util.ArrayList;
import java.util.List;
import java.util.Random;

/** Lines and molecules by chance, the same at each run, each promise against the oracle. */
public final class RandomInputsTest {
    private static final int LINES = 30000;
    private static final int SPARSE = 1500;
    private static final int DENSE = 60;

    private final Checks c = new Checks();
    private final Random random = new Random(20261115);
    private final Lines lines = new Lines(random);
    private final List<Case> cases = new ArrayList<>();

    /** A molecule, made by calls and in the oracle alike. */
    private static final class Case {
        final RingSearch x = new RingSearch();
        final Oracle.Net g = new Oracle.Net();
        Oracle.Facts facts;
        String name;
    }

    private interface Check { void of(Case k); }

    public static void main(String[] args) throws Exception {
        RandomInputsTest t = new RandomInputsTest();
        t.c.runAll(t, "promise");
        System.exit(t.c.end("RandomInputsTest"));
    }

    // ---- molecules

    private void eachCase(Check check) { for (Case k : cases) check.of(k); }

    private void addAtom(Case k) {
        int label = random.nextInt(3);
        c.same(k.name, k.x.atom(label), k.g.labels.size());
        k.g.labels.add(label);
    }

    private void addBond(Case k) {
        int n = k.g.labels.size();
        int a = random.nextInt(n + 1), b = random.nextInt(n + 1), sort = random.nextInt(4);
        Object due;
        if (a == n || b == n) due = "throws.IndexOutOfBoundsException";
        else if (a == b || k.g.find(a, b) >= 0) due = "throws.IllegalArgumentException";
        else if (k.g.bonds.size() == 40 || k.g.degree(a) == 6 || k.g.degree(b) == 6) due = "throws.UnsupportedOperationException";
        else { due = k.g.bonds.size(); k.g.bonds.add(new Oracle.Bond(a, b, sort, 0)); }
        c.same(k.name, Checks.answer(() -> k.x.bond(a, b, sort)), due);
    }

    /** This one runs first: all others go through what it makes. */
    private void promise02_atoms_of_many_molecules() {
        for (int i = 0; i < SPARSE + DENSE; i++) {
            Case k = new Case();
            k.name = "molecule " + i;
            int atoms = i >= SPARSE ? 7 + random.nextInt(12) : 1 + random.nextInt(i % 3 == 0 ? 32 : 11);
            while (k.g.labels.size() < atoms) addAtom(k);
            cases.add(k);
        }
    }

    private void promise03_bonds_of_many_molecules() {
        for (int i = 0; i < cases.size(); i++) {
            Case k = cases.get(i);
            int atoms = k.g.labels.size();
            int tries = i >= SPARSE ? 400 : i % 3 == 0 ? atoms + random.nextInt(12) : random.nextInt(3 * atoms);
            for (int n = 0; n < tries; n++) addBond(k);
        }
        for (Case k : cases) k.facts = new Oracle.Facts(k.g, k.g.bonds.size() - k.g.labels.size() > 9 ? 7 : 32);
    }

    private void promise05_atoms() {
        eachCase(k -> {
            for (int a = 0; a < k.g.labels.size(); a++) {
                int atom = a;
                c.same(k.name + " label", k.x.atomTold(a, 0), k.g.labels.get(a));
                c.same(k.name + " bonds", k.x.atomTold(a, 1), k.g.degree(a));
                c.same(k.name + " part", k.x.atomTold(a, 2), k.facts.parts[a]);
                c.same(k.name + " rings", k.x.atomTold(a, 3), (int) k.facts.rings.stream().filter(r -> Oracle.ringAtoms(k.g, r).contains(atom)).count());
                c.same(k.name + " least", k.x.atomTold(a, 4), Oracle.leastAt(k.g, k.facts.cycles, a));
            }
        });
    }

    private void promise06_bonds() {
        eachCase(k -> {
            sameBonds(k.name, k.x, k.g);
            for (int i = 0; i < k.g.bonds.size(); i++) {
                int bond = i;
                c.same(k.name + " bridge", k.x.bondTold(i, 3), (k.facts.inRing >> i & 1) != 0 ? 0 : 1);
                c.same(k.name + " rings", k.x.bondTold(i, 4), (int) k.facts.rings.stream().filter(r -> (r >> bond & 1) != 0).count());
                c.same(k.name + " system", k.x.bondTold(i, 5), k.facts.systems[i]);
            }
        });
    }

    private void sameBonds(String name, RingSearch x, Oracle.Net g) {
        for (int i = 0; i < g.bonds.size(); i++) {
            Oracle.Bond b = g.bonds.get(i);
            c.same(name + " bond " + i, x.bondTold(i, 1) + " " + x.bondTold(i, 2) + " " + x.bondTold(i, 0), b.a + " " + b.b + " " + b.sort);
        }
    }

    private void promise07_between_atoms() {
        eachCase(k -> {
            for (int a = 0; a < k.g.labels.size(); a++) {
                int b = random.nextInt(k.g.labels.size());
                c.same(k.name, k.x.between(a, b), Oracle.between(k.g, a, b));
            }
        });
    }

    private void promise08_rings() {
        eachCase(k -> {
            for (int r = 0; r < k.facts.rings.size(); r++) c.same(k.name + " ring " + r, k.x.ring(r), k.facts.rings.get(r));
            c.same(k.name + " no more", Checks.answer(() -> k.x.ring(k.facts.rings.size())), "throws.IndexOutOfBoundsException");
        });
    }

    private void promise09_atoms_of_rings() {
        eachCase(k -> {
            for (int i = 0; i < k.facts.rings.size(); i++) {
                int r = i;
                List<Integer> due = Oracle.ringAtoms(k.g, k.facts.rings.get(r)), got = new ArrayList<>();
                for (int j = 0; j < due.size(); j++) got.add(k.x.ringAtom(r, j));
                c.same(k.name + " ring " + r, got, due);
                c.same(k.name + " its end", Checks.answer(() -> k.x.ringAtom(r, due.size())), "throws.IndexOutOfBoundsException");
            }
        });
    }

    private void promise10_cycles() {
        eachCase(k -> {
            for (int size = 3; size <= 7; size++) {
                c.same(k.name + " of " + size, k.x.cycles(size), Oracle.ofSize(k.facts.cycles, size));
            }
        });
    }

    private void promise11_sums() {
        eachCase(k -> {
            for (int i = 0; i < 5 && k.facts.cycles.length > 0; i++) {
                long sum = 0;
                for (int n = random.nextInt(5); n > 0; n--) sum ^= k.facts.cycles[random.nextInt(k.facts.cycles.length)];
                c.same(k.name + " a sum", k.x.isSum(sum), true);
                c.same(k.name + " no sum", k.x.isSum(sum ^ 1L << random.nextInt(64)), false);
            }
        });
    }

    // ---- lines

    /** An object reads one line after another until a fault leaves its tape full. */
    private RingSearch sameLine(RingSearch before, boolean pattern, String text) {
        Oracle.Line due = Oracle.parse(text, pattern);
        RingSearch x = before.told(9) == 0 ? before : new RingSearch();
        Checks.feed(x, text);
        c.same(text, pattern ? x.pattern() : x.read(), due.fault != 0 ? -1 - due.place : due.net.labels.size());
        c.same(text + " tape", x.told(9), due.fault != 0 ? text.length() : 0);
        if (due.fault != 0) return x;
        c.same(text + " bonds", x.told(pattern ? 7 : 1), due.net.bonds.size());
        if (!pattern) sameMolecule(text, x, due.net);
        return x;
    }

    private void sameMolecule(String name, RingSearch x, Oracle.Net g) {
        for (int a = 0; a < g.labels.size(); a++) c.same(name + " label " + a, x.atomTold(a, 0), g.labels.get(a));
        sameBonds(name, x, g);
    }

    private void promise13_lines() {
        RingSearch x = new RingSearch();
        for (int i = 0; i < LINES; i++) x = sameLine(x, false, lines.any(false));
    }

    private void promise14_patterns() {
        RingSearch x = new RingSearch();
        for (int i = 0; i < LINES; i++) x = sameLine(x, true, lines.any(true));
    }

    private void promise15_faults() {
        RingSearch x = new RingSearch();
        for (int i = 0; i < LINES; i++) {
            boolean pattern = i % 2 == 0;
            String text = lines.any(pattern);
            if (x.told(9) > 0) x = new RingSearch();
            Checks.feed(x, text);
            int got = pattern ? x.pattern() : x.read();
            c.same(text + " " + got, x.fault(), Oracle.parse(text, pattern).fault);
        }
    }

    private void promise16_written_molecules() {
        eachCase(k -> {
            String due = Oracle.write(k.g);
            c.same(k.name + " bytes", k.x.write(), due == null ? -1 : due.length());
            c.same(k.name + " told", k.x.told(10), due == null ? 0 : due.length());
            if (due == null) return;
            Oracle.Line again = Oracle.parse(due, false);
            if (again.fault == 2) return;
            c.same(k.name + " read again", again.fault, 0);
            c.same(k.name + " its bonds", again.net.bonds.size(), k.g.bonds.size());
            RingSearch y = new RingSearch();
            c.same(k.name + " its atoms", Checks.read(y, due), k.g.labels.size());
            sameMolecule(k.name + " read again", y, again.net);
        });
    }

    private void promise17_written_bytes() { eachCase(k -> c.same(k.name, Checks.written(k.x), Oracle.write(k.g))); }

    // ---- places

    private interface PlaceCheck { void of(String name, RingSearch x, List<int[]> due, int width); }

    private void eachPattern(int patterns, PlaceCheck check) {
        for (Case k : cases) {
            for (int i = 0; i < patterns; i++) {
                String text = i == 0 ? "???????".substring(random.nextInt(6)) : lines.good(true);
                Oracle.Line p = Oracle.parse(text, true);
                if (p.fault != 0) continue;
                Checks.pattern(k.x, text);
                List<int[]> due = Oracle.places(p.net, k.g, k.facts.inRing);
                check.of(k.name + " " + text, k.x, due, p.net.labels.size());
            }
        }
    }

    private void promise18_places() {
        eachPattern(3, (name, x, due, width) -> {
            c.same(name, x.search(), due.size());
            c.same(name + " kept", x.told(8), Math.min(2000, due.size()));
        });
    }

    private void promise18_patterns_of_up_to_10_atoms_and_14_bonds() {
        for (int i = 0; i < 500; i++) {
            Oracle.Net g = onePart(7 + i % 4, 8 + random.nextInt(7));
            String text = Oracle.write(g);
            RingSearch x = Checks.molecule(text);
            c.same(text, Checks.pattern(x, text), g.labels.size());
            Oracle.Net molecule = Oracle.parse(text, false).net, pattern = Oracle.parse(text, true).net;
            List<int[]> due = Oracle.places(pattern, molecule, Oracle.facts(molecule).inRing);
            c.same(text + " places", x.search(), due.size());
            c.same(text + " the last one's last atom", x.place(x.told(8) - 1, g.labels.size() - 1), due.get(Math.min(2000, due.size()) - 1)[g.labels.size() - 1]);
        }
    }

    private Oracle.Net onePart(int atoms, int bonds) {
        Oracle.Net g = new Oracle.Net();
        g.labels.add(0);
        for (int a = 1; a < atoms; a++) {
            g.labels.add(0);
            g.bonds.add(new Oracle.Bond(random.nextInt(4) == 0 && g.degree(0) < 6 ? 0 : a - 1, a, 0, 0));
        }
        for (int turn = 0; turn < 200 && g.bonds.size() < bonds; turn++) {
            int a = random.nextInt(atoms), b = random.nextInt(atoms);
            if (a != b && g.find(a, b) < 0 && g.degree(a) < 6 && g.degree(b) < 6) g.bonds.add(new Oracle.Bond(a, b, 0, 0));
        }
        return g;
    }

    private void promise19_atoms_of_places() {
        eachPattern(3, (name, x, due, width) -> {
            x.search();
            int kept = Math.min(2000, due.size()), wrong = 0;
            for (int i = 0; i < kept; i++) for (int q = 0; q < width; q++) if (x.place(i, q) != due.get(i)[q]) wrong++;
            c.same(name + " wrong atoms", wrong, 0);
            c.same(name + " no more places", Checks.answer(() -> x.place(kept, 0)), "throws.IndexOutOfBoundsException");
            c.same(name + " no more atoms", Checks.answer(() -> x.place(0, width)), "throws.IndexOutOfBoundsException");
        });
    }

    private void promise20_sets_of_places() {
        eachPattern(3, (name, x, due, width) -> {
            x.search();
            c.same(name, x.sets(), Oracle.sets(due.subList(0, Math.min(2000, due.size()))));
        });
    }

    private void promise21_numbers_told() {
        eachCase(k -> {
            c.same(k.name + " atoms", k.x.told(0), k.g.labels.size());
            c.same(k.name + " bonds", k.x.told(1), k.g.bonds.size());
            c.same(k.name + " parts", k.x.told(2), Oracle.count(k.facts.parts));
            c.same(k.name + " rings", k.x.told(3), k.facts.rings.size());
            c.same(k.name + " bridges", k.x.told(4), k.g.bonds.size() - Long.bitCount(k.facts.inRing));
            c.same(k.name + " systems", k.x.told(5), Oracle.count(k.facts.systems));
        });
    }
}
