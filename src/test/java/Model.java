import java.util.ArrayList;
import java.util.List;

/** The whole face of the class once more, over the oracle: an answer is a number, or the name of what is thrown. */
final class Model {
    private static final String INDEX = "throws.IndexOutOfBoundsException";
    private static final String ARGUMENT = "throws.IllegalArgumentException";
    private static final String ROOM = "throws.UnsupportedOperationException";

    Oracle.Net g = new Oracle.Net();
    Oracle.Net p = null;
    String tape = "";
    String written = "";
    int fault = 0;
    List<int[]> kept = new ArrayList<>();
    private Oracle.Facts facts = null;

    Oracle.Facts facts() {
        if (facts == null) facts = Oracle.facts(g);
        return facts;
    }

    Object answer(String call, long... a) {
        int i = a.length > 0 ? (int) a[0] : 0, j = a.length > 1 ? (int) a[1] : 0;
        switch (call) {
            case "atom": return atom(i);
            case "bond": return bond(i, j, (int) a[2]);
            case "cut": return cut(i);
            case "atomTold": return isAtom(i) ? atomTold(i, j) : INDEX;
            case "bondTold": return isBond(i) ? bondTold(i, j) : INDEX;
            case "between": return isAtom(i) && isAtom(j) ? (Object) Oracle.between(g, i, j) : INDEX;
            case "ring": return isIn(i, facts().rings.size()) ? (Object) facts().rings.get(i) : INDEX;
            case "ringAtom": return ringAtom(i, j);
            case "cycles": return i < 3 || i > 7 ? ARGUMENT : (Object) Oracle.ofSize(facts().cycles, i);
            case "isSum": return Oracle.isSum(facts().rings, a[0]);
            case "feed": return feed(a[0], j);
            case "read": return read();
            case "pattern": return pattern();
            case "fault": return fault;
            case "write": return write();
            case "written": return isIn(i, written.length()) ? (Object) (int) written.charAt(i) : INDEX;
            case "search": return search();
            case "place": return isIn(i, kept.size()) && isIn(j, kept.get(i).length) ? (Object) kept.get(i)[j] : INDEX;
            case "sets": return Oracle.sets(kept);
            case "told": return told(i);
            case "clear": g = new Oracle.Net(); facts = null; return "done";
            default: throw new IllegalStateException(call);
        }
    }

    private static boolean isIn(int i, int n) { return i >= 0 && i < n; }
    private boolean isAtom(int i) { return isIn(i, g.labels.size()); }
    private boolean isBond(int i) { return isIn(i, g.bonds.size()); }

    private Object atom(int label) {
        if (!isIn(label, 16)) return ARGUMENT;
        if (g.labels.size() == 32) return ROOM;
        g.labels.add(label);
        facts = null;
        return g.labels.size() - 1;
    }

    private Object bond(int a, int b, int sort) {
        if (!isAtom(a) || !isAtom(b)) return INDEX;
        if (!isIn(sort, 4) || a == b || g.find(a, b) >= 0) return ARGUMENT;
        if (g.bonds.size() == 40 || g.degree(a) == 6 || g.degree(b) == 6) return ROOM;
        g.bonds.add(new Oracle.Bond(a, b, sort, 0));
        facts = null;
        return g.bonds.size() - 1;
    }

    private Object cut(int bond) {
        if (!isBond(bond)) return INDEX;
        g.bonds.remove(bond);
        facts = null;
        return g.bonds.size();
    }

    private Object atomTold(int a, int what) {
        switch (what) {
            case 0: return g.labels.get(a);
            case 1: return g.degree(a);
            case 2: return facts().parts[a];
            case 3: return (int) facts().rings.stream().filter(r -> Oracle.ringAtoms(g, r).contains(a)).count();
            case 4: return Oracle.leastAt(g, facts().cycles, a);
            default: return ARGUMENT;
        }
    }

    private Object bondTold(int k, int what) {
        switch (what) {
            case 0: return g.bonds.get(k).sort;
            case 1: return g.bonds.get(k).a;
            case 2: return g.bonds.get(k).b;
            case 3: return facts().systems[k] < 0 ? 1 : 0;
            case 4: return (int) facts().rings.stream().filter(r -> (r >> k & 1) != 0).count();
            case 5: return facts().systems[k];
            default: return ARGUMENT;
        }
    }

    private Object ringAtom(int i, int j) {
        if (!isIn(i, facts().rings.size())) return INDEX;
        List<Integer> row = Oracle.ringAtoms(g, facts().rings.get(i));
        return isIn(j, row.size()) ? (Object) row.get(j) : INDEX;
    }

    private Object feed(long bytes, int n) {
        if (n < 1 || n > 8) return ARGUMENT;
        if (tape.length() + n > 200) return ROOM;
        StringBuilder out = new StringBuilder(tape);
        for (int i = n - 1; i >= 0; i--) out.append((char) (bytes >> 8 * i & 255));
        tape = out.toString();
        return tape.length();
    }

    private Object read() {
        Oracle.Line line = Oracle.parse(tape, false);
        fault = line.fault;
        if (fault != 0) return -1 - line.place;
        g = line.net;
        facts = null;
        tape = "";
        return g.labels.size();
    }

    private Object pattern() {
        Oracle.Line line = Oracle.parse(tape, true);
        fault = line.fault;
        if (fault != 0) return -1 - line.place;
        p = line.net;
        tape = "";
        return p.labels.size();
    }

    private Object write() {
        String line = Oracle.write(g);
        written = line == null ? "" : line;
        return line == null ? -1 : written.length();
    }

    private Object search() {
        if (p == null) return -1;
        List<int[]> all = Oracle.places(p, g, facts().inRing);
        kept = new ArrayList<>(all.subList(0, Math.min(2000, all.size())));
        return all.size();
    }

    private Object told(int what) {
        switch (what) {
            case 0: return g.labels.size();
            case 1: return g.bonds.size();
            case 2: return Oracle.count(facts().parts);
            case 3: return facts().rings.size();
            case 4: return g.bonds.size() - Long.bitCount(facts().inRing);
            case 5: return Oracle.count(facts().systems);
            case 6: return p == null ? 0 : p.labels.size();
            case 7: return p == null ? 0 : p.bonds.size();
            case 8: return kept.size();
            case 9: return tape.length();
            case 10: return written.length();
            default: return ARGUMENT;
        }
    }
}
