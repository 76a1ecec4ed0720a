import java.util.ArrayList;
import java.util.Arrays;
import java.util.Collections;
import java.util.HashSet;
import java.util.List;
import java.util.Set;
import java.util.TreeSet;

/**
 * The document once more, by the slowest and plainest means: all cycles are gone through, all places
 * are tried, lines are read by one method for each rule of the grammar. Small inputs only.
 */
final class Oracle {
    static final class Bond {
        final int a, b, sort, want;
        Bond(int a, int b, int sort, int want) { this.a = Math.min(a, b); this.b = Math.max(a, b); this.sort = sort; this.want = want; }
        int other(int x) { return x == a ? b : a; }
        boolean has(int x) { return x == a || x == b; }
    }

    static final class Net {
        final List<Integer> labels = new ArrayList<>();
        final List<int[]> wants = new ArrayList<>();
        final List<Bond> bonds = new ArrayList<>();

        int find(int a, int b) {
            for (int k = 0; k < bonds.size(); k++) if (a != b && bonds.get(k).has(a) && bonds.get(k).has(b)) return k;
            return -1;
        }

        int degree(int a) { int n = 0; for (Bond x : bonds) if (x.has(a)) n++; return n; }
    }

    /** What a line came to: a net, or a fault. */
    static final class Line {
        Net net;
        int fault, place;
    }

    private static final class Fault extends RuntimeException {
        private static final long serialVersionUID = 1L;
        final int code, place;
        Fault(int code, int place) { super("fault"); this.code = code; this.place = place; }
    }

    private static final class Parser {
        final String text; final boolean pattern; final int mostAtoms, mostBonds;
        int at = 0, open = 0;
        final Net net = new Net();
        final int[] openAtom = new int[10];
        final String[] openSign = new String[10];

        Parser(String text, boolean pattern) {
            this.text = text; this.pattern = pattern;
            mostAtoms = pattern ? 10 : 32; mostBonds = pattern ? 14 : 40;
            Arrays.fill(openAtom, -1);
        }

        char peek() { return at < text.length() ? text.charAt(at) : '\uffff'; }
        Fault wrong() { return new Fault(1, at); }

        void lines() {
            line();
            while (!pattern && peek() == '.') { at++; line(); }
            if (at < text.length()) throw wrong();
            for (int f = 1; f <= 9; f++) if (openAtom[f] >= 0) throw new Fault(5, at);
        }

        void line() { chain(atom(-1, "")); }

        void chain(int from) {
            while (peek() == '(') {
                if (open == 8) throw new Fault(2, at);
                at++; open++;
                chainOne(from);
                if (peek() != ')') throw wrong();
                at++; open--;
            }
            if (isAtomStart(peek()) || isSign(peek())) chainOne(from);
        }

        void chainOne(int from) { String s = sign(); chain(atom(from, s)); }

        boolean isSign(char c) { return "-=#:".indexOf(c) >= 0 || pattern && c == '*'; }
        boolean isLetter(char c) { return c >= 'a' && c <= 'p'; }
        boolean isAtomStart(char c) { return isLetter(c) || pattern && (c == '?' || c == '['); }

        String sign() {
            if (!isSign(peek())) return "";
            String s = "" + text.charAt(at++);
            if (pattern && (peek() == '@' || peek() == '/')) s += text.charAt(at++);
            return s;
        }

        int atom(int from, String sign) {
            if (!isAtomStart(peek())) throw wrong();
            if (net.labels.size() == mostAtoms) throw new Fault(3, at);
            if (from >= 0 && net.bonds.size() == mostBonds) throw new Fault(3, at);
            if (from >= 0 && net.degree(from) == 6) throw new Fault(4, at);
            int me = net.labels.size();
            net.labels.add(0);
            net.wants.add(new int[] {0, 0});
            if (from >= 0) add(from, me, sign);
            letter(me);
            closures(me);
            return me;
        }

        void letter(int me) {
            char c = text.charAt(at++);
            if (c == '?') { net.labels.set(me, 65535); return; }
            if (c != '[') { net.labels.set(me, pattern ? 1 << (c - 'a') : c - 'a'); return; }
            int set = 0;
            if (peek() == '?') { at++; set = 65535; }
            else { while (isLetter(peek())) set |= 1 << (text.charAt(at++) - 'a'); }
            if (set == 0) throw wrong();
            net.labels.set(me, set);
            if (peek() == '!') { at++; net.wants.get(me)[0] = 1; }
            else if (peek() == '~') { at++; net.wants.get(me)[0] = 2; }
            if (peek() == '=') {
                at++;
                if (peek() < '1' || peek() > '6') throw wrong();
                net.wants.get(me)[1] = text.charAt(at++) - '0';
            }
            if (peek() != ']') throw wrong();
            at++;
        }

        void closures(int me) {
            while (true) {
                int before = at;
                String s = sign();
                if (peek() < '1' || peek() > '9') { at = before; return; }
                int f = peek() - '0';
                if (openAtom[f] < 0) { openAtom[f] = me; openSign[f] = s; }
                else { close(me, s, openAtom[f], openSign[f]); openAtom[f] = -1; }
                at++;
            }
        }

        void close(int me, String s, int other, String t) {
            if (net.bonds.size() == mostBonds) throw new Fault(3, at);
            boolean bad = me == other || net.find(me, other) >= 0
                || !s.isEmpty() && !t.isEmpty() && !s.equals(t)
                || net.degree(me) == 6 || net.degree(other) == 6;
            if (bad) throw new Fault(4, at);
            add(other, me, s.isEmpty() ? t : s);
        }

        void add(int a, int b, String s) {
            int sort = s.isEmpty() || s.charAt(0) == '*' ? -1 : "-=#:".indexOf(s.charAt(0));
            int kind = pattern ? (sort < 0 ? 15 : 1 << sort) : Math.max(sort, 0);
            int want = s.length() < 2 ? 0 : s.charAt(1) == '@' ? 1 : 2;
            net.bonds.add(new Bond(a, b, kind, want));
        }
    }

    static Line parse(String text, boolean pattern) {
        Line line = new Line();
        Parser p = new Parser(text, pattern);
        try { p.lines(); line.net = p.net; }
        catch (Fault f) { line.fault = f.code; line.place = f.place; }
        return line;
    }

    // ---- rings

    /** What follows from a net. Of dense nets not all cycles can be gone through: then those of so many bonds at most. */
    static final class Facts {
        final long[] cycles;
        final List<Long> rings;
        final int[] parts, systems;
        final long inRing;

        Facts(Net g, int longest) {
            cycles = cycles(g, longest);
            rings = Oracle.rings(cycles);
            parts = Oracle.parts(g);
            systems = longest >= g.labels.size() ? Oracle.systems(g, cycles) : systemsByCuts(g);
            long bits = 0;
            for (int k = 0; k < systems.length; k++) if (systems[k] >= 0) bits |= 1L << k;
            inRing = bits;
            if (rings.size() != g.bonds.size() - g.labels.size() + Oracle.count(parts)) throw new IllegalStateException("longer cycles are rings too");
        }
    }

    static Facts facts(Net g) { return new Facts(g, 32); }

    /** How many different numbers 0, 1, .. there are in a row. */
    static int count(int[] row) { int m = -1; for (int v : row) m = Math.max(m, v); return m + 1; }

    /** The cycles of at most so many bonds, as bits of bonds, in the document's order. */
    static long[] cycles(Net g, int longest) {
        Row all = new Row();
        for (int s = 0; s < g.labels.size(); s++) grow(g, s, s, 1 << s, 0L, -1, longest, all);
        long[] out = Arrays.copyOf(all.of, all.n);
        for (int i = 0; i < out.length; i++) out[i] |= (long) Long.bitCount(out[i]) << 40;
        Arrays.sort(out);
        for (int i = 0; i < out.length; i++) out[i] &= (1L << 40) - 1;
        return out;
    }

    private static final class Row {
        long[] of = new long[16];
        int n = 0;
        void add(long y) { if (n == of.length) of = Arrays.copyOf(of, 2 * n); of[n++] = y; }
    }

    private static void grow(Net g, int start, int at, int used, long bonds, int first, int longest, Row all) {
        if (Long.bitCount(bonds) == longest) return;
        for (int k = 0; k < g.bonds.size(); k++) {
            Bond b = g.bonds.get(k);
            if (!b.has(at) || (bonds >> k & 1) != 0) continue;
            int to = b.other(at);
            if (to == start && Long.bitCount(bonds) >= 2 && at > first) all.add(bonds | 1L << k);
            if (to > start && (used >>> to & 1) == 0) grow(g, start, to, used | 1 << to, bonds | 1L << k, first < 0 ? to : first, longest, all);
        }
    }

    /** Kept as the document says: each cycle in order, if it is no sum of some that are kept. */
    static List<Long> rings(long[] cycles) {
        List<Long> kept = new ArrayList<>();
        long[] byTop = new long[64];
        for (long c : cycles) {
            long rest = c;
            while (rest != 0) {
                int top = 63 - Long.numberOfLeadingZeros(rest);
                if (byTop[top] == 0) { byTop[top] = rest; kept.add(c); break; }
                rest ^= byTop[top];
            }
        }
        return kept;
    }

    static List<Integer> ringAtoms(Net g, long ring) {
        Set<Integer> on = new TreeSet<>();
        for (int k = 0; k < g.bonds.size(); k++) if ((ring >> k & 1) != 0) { on.add(g.bonds.get(k).a); on.add(g.bonds.get(k).b); }
        List<Integer> row = new ArrayList<>();
        int at = Collections.min(on);
        while (row.size() < on.size()) {
            row.add(at);
            int next = 99;
            for (int x : on) {
                int k = g.find(at, x);
                if (k >= 0 && (ring >> k & 1) != 0 && !row.contains(x)) next = Math.min(next, x);
            }
            at = next;
        }
        return row;
    }

    static int[] parts(Net g) {
        int n = g.labels.size();
        int[] part = new int[n];
        for (int i = 0; i < n; i++) part[i] = i;
        for (int pass = 0; pass < n; pass++)
            for (Bond b : g.bonds) { int m = Math.min(part[b.a], part[b.b]); part[b.a] = m; part[b.b] = m; }
        return numbered(part);
    }

    /** A ring system for each bond, by all cycles; -1 for a bridge. */
    static int[] systems(Net g, long[] cycles) {
        int m = g.bonds.size();
        int[] of = new int[m];
        Arrays.fill(of, -1);
        for (long c : cycles) for (int k = 0; k < m; k++) if ((c >> k & 1) != 0) of[k] = k;
        boolean changed = true;
        while (changed) {
            changed = false;
            for (long c : cycles) {
                int least = 99;
                for (int k = 0; k < m; k++) if ((c >> k & 1) != 0) least = Math.min(least, of[k]);
                for (int k = 0; k < m; k++) if ((c >> k & 1) != 0 && of[k] != least) { of[k] = least; changed = true; }
            }
        }
        return numbered(of);
    }

    /** The same without cycles: two bonds of an atom lie in one if their other ends hang together without it. */
    static int[] systemsByCuts(Net g) {
        int m = g.bonds.size();
        int[] of = new int[m];
        for (int k = 0; k < m; k++) of[k] = hangTogether(g, g.bonds.get(k).a, g.bonds.get(k).b, k, -1) ? k : -1;
        for (int i = 0; i < m; i++) for (int k = 0; k < i; k++) {
            int v = shared(g.bonds.get(i), g.bonds.get(k));
            if (v < 0 || of[i] < 0 || of[k] < 0 || of[i] == of[k]) continue;
            if (hangTogether(g, g.bonds.get(i).other(v), g.bonds.get(k).other(v), -1, v)) unite(of, of[i], of[k]);
        }
        return numbered(of);
    }

    private static void unite(int[] of, int a, int b) {
        for (int k = 0; k < of.length; k++) if (of[k] == Math.max(a, b)) of[k] = Math.min(a, b);
    }

    private static int shared(Bond x, Bond y) { return y.has(x.a) ? x.a : y.has(x.b) ? x.b : -1; }

    private static boolean hangTogether(Net g, int a, int b, int withoutBond, int withoutAtom) {
        Set<Integer> met = new HashSet<>(Set.of(a));
        for (int pass = 0; pass < g.labels.size(); pass++)
            for (int k = 0; k < g.bonds.size(); k++) {
                Bond x = g.bonds.get(k);
                if (k == withoutBond || x.has(withoutAtom)) continue;
                if (met.contains(x.a) || met.contains(x.b)) { met.add(x.a); met.add(x.b); }
            }
        return met.contains(b);
    }

    private static int[] numbered(int[] least) {
        TreeSet<Integer> names = new TreeSet<>();
        for (int x : least) if (x >= 0) names.add(x);
        List<Integer> order = new ArrayList<>(names);
        int[] out = new int[least.length];
        for (int i = 0; i < out.length; i++) out[i] = least[i] < 0 ? -1 : order.indexOf(least[i]);
        return out;
    }

    static int ofSize(long[] cycles, int size) { int n = 0; for (long y : cycles) if (Long.bitCount(y) == size) n++; return n; }

    static int leastAt(Net g, long[] cycles, int a) {
        for (long y : cycles)
            for (int k = 0; k < g.bonds.size(); k++) if ((y >> k & 1) != 0 && g.bonds.get(k).has(a)) return Long.bitCount(y);
        return 0;
    }

    /** Whether some bonds are a sum of rings, by going through all sums. */
    static boolean isSum(List<Long> rings, long bonds) {
        Set<Long> sums = new HashSet<>(Set.of(0L));
        for (long r : rings) for (long y : new ArrayList<>(sums)) sums.add(y ^ r);
        return sums.contains(bonds);
    }

    static int between(Net g, int a, int b) {
        int n = g.labels.size();
        int[] d = new int[n];
        Arrays.fill(d, 1000);
        d[a] = 0;
        for (int pass = 0; pass < n; pass++)
            for (Bond x : g.bonds) { d[x.a] = Math.min(d[x.a], d[x.b] + 1); d[x.b] = Math.min(d[x.b], d[x.a] + 1); }
        return d[b] >= 1000 ? -1 : d[b];
    }

    // ---- written

    /** The written line, or null if ten figures would be open. */
    static String write(Net g) {
        StringBuilder out = new StringBuilder();
        Set<Integer> met = new HashSet<>();
        Set<Integer> leads = new HashSet<>();
        String[] figures = new String[g.bonds.size()];
        TreeSet<String> free = new TreeSet<>(List.of("1", "2", "3", "4", "5", "6", "7", "8", "9"));
        for (int a = 0; a < g.labels.size(); a++) {
            if (met.contains(a)) continue;
            if (out.length() > 0) out.append('.');
            lead(g, a, met, leads);
            if (!writeAtom(g, a, -1, leads, figures, free, out)) return null;
        }
        return out.toString();
    }

    private static void lead(Net g, int a, Set<Integer> met, Set<Integer> leads) {
        met.add(a);
        for (int k = 0; k < g.bonds.size(); k++) {
            Bond b = g.bonds.get(k);
            if (b.has(a) && !met.contains(b.other(a))) { leads.add(k); lead(g, b.other(a), met, leads); }
        }
    }

    private static boolean writeAtom(Net g, int a, int came, Set<Integer> leads, String[] figures, TreeSet<String> free, StringBuilder out) {
        out.append("abcdefghijklmnop".charAt(g.labels.get(a)));
        List<Integer> onward = new ArrayList<>();
        for (int k = 0; k < g.bonds.size(); k++) {
            Bond b = g.bonds.get(k);
            if (!b.has(a) || k == came) continue;
            if (leads.contains(k)) { onward.add(k); continue; }
            if (figures[k] == null) {
                if (free.isEmpty()) return false;
                figures[k] = free.pollFirst();
                out.append(signOf(b)).append(figures[k]);
            } else { out.append(figures[k]); free.add(figures[k]); }
        }
        for (int i = 0; i < onward.size(); i++) {
            Bond b = g.bonds.get(onward.get(i));
            boolean lastOne = i == onward.size() - 1;
            out.append(lastOne ? "" : "(").append(signOf(b));
            if (!writeAtom(g, b.other(a), onward.get(i), leads, figures, free, out)) return false;
            out.append(lastOne ? "" : ")");
        }
        return true;
    }

    private static String signOf(Bond b) { return new String[] {"", "=", "#", ":"}[b.sort]; }

    // ---- places

    /** Every row of different atoms is tried, atom by atom, against the whole of what is wanted. */
    static List<int[]> places(Net p, Net g, long inRing) {
        List<int[]> all = new ArrayList<>();
        tryAtom(p, g, inRing, new int[p.labels.size()], 0, all);
        return all;
    }

    private static void tryAtom(Net p, Net g, long inRing, int[] row, int q, List<int[]> all) {
        if (q == row.length) { all.add(row.clone()); return; }
        for (int a = 0; a < g.labels.size(); a++) {
            row[q] = a;
            if (fits(p, g, inRing, row, q)) tryAtom(p, g, inRing, row, q + 1, all);
        }
    }

    private static boolean fits(Net p, Net g, long inRing, int[] row, int q) {
        int a = row[q];
        for (int i = 0; i < q; i++) if (row[i] == a) return false;
        if ((p.labels.get(q) >> g.labels.get(a) & 1) == 0) return false;
        int want = p.wants.get(q)[0], many = p.wants.get(q)[1];
        boolean ringed = false;
        for (int k = 0; k < g.bonds.size(); k++) if (g.bonds.get(k).has(a) && (inRing >> k & 1) != 0) ringed = true;
        if (want == 1 && !ringed || want == 2 && ringed) return false;
        if (many != 0 && g.degree(a) != many) return false;
        for (Bond b : p.bonds) {
            if (b.b != q) continue;
            int k = g.find(row[b.a], a);
            if (k < 0 || (b.sort >> g.bonds.get(k).sort & 1) == 0) return false;
            boolean r = (inRing >> k & 1) != 0;
            if (b.want == 1 && !r || b.want == 2 && r) return false;
        }
        return true;
    }

    static int sets(List<int[]> kept) {
        Set<String> seen = new HashSet<>();
        for (int[] row : kept) { int[] s = row.clone(); Arrays.sort(s); seen.add(Arrays.toString(s)); }
        return seen.size();
    }
}
