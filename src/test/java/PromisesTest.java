import java.util.ArrayList;
import java.util.List;

/** Each promise of the document by its number: ordinary inputs, the edges that it names, wrong inputs. */
public final class PromisesTest {
    private static final Class<IndexOutOfBoundsException> INDEX = IndexOutOfBoundsException.class;
    private static final Class<IllegalArgumentException> ARGUMENT = IllegalArgumentException.class;
    private static final Class<UnsupportedOperationException> ROOM = UnsupportedOperationException.class;
    private static final String NAPHTHALENE = "a1:a:a:a:a2:a:1:a:a:a:a:2";

    private final Checks c = new Checks();

    public static void main(String[] args) throws Exception {
        PromisesTest t = new PromisesTest();
        t.c.runPromises(t);
        System.exit(t.c.end("PromisesTest"));
    }

    private void promise01_a_new_object() {
        RingSearch x = new RingSearch();
        for (int what = 0; what <= 10; what++) c.same("told(" + what + ")", x.told(what), 0);
        c.same("fault", x.fault(), 0);
        c.same("sets", x.sets(), 0);
        c.same("search", x.search(), RingSearch.NONE);
        c.same("write", x.write(), 0);
        c.same("NONE", RingSearch.NONE, -1);
        c.refused("written", INDEX, () -> x.written(0));
        c.refused("place", INDEX, () -> x.place(0, 0));
        c.refused("ring", INDEX, () -> x.ring(0));
    }

    private void promise02_atom() {
        RingSearch x = new RingSearch();
        for (int bad : new int[] {-1, 16, Integer.MIN_VALUE, Integer.MAX_VALUE}) c.refused("label " + bad, ARGUMENT, () -> x.atom(bad));
        c.same("nothing came", x.told(0), 0);
        for (int i = 0; i < 32; i++) c.same("number", x.atom(i % 16), i);
        for (int i = 0; i < 32; i++) c.same("label", x.atomTold(i, 0), i % 16);
        c.refused("a 33rd", ROOM, () -> x.atom(0));
        c.refused("the label comes first", ARGUMENT, () -> x.atom(16));
        c.same("still 32", x.told(0), 32);
    }

    private void promise03_bond() {
        RingSearch x = new RingSearch();
        for (int i = 0; i < 32; i++) x.atom(0);
        c.same("first", x.bond(5, 2, 3), 0);
        c.same("second", x.bond(2, 6, 0), 1);
        c.refused("atom 32", INDEX, () -> x.bond(0, 32, 0));
        c.refused("atom -1", INDEX, () -> x.bond(-1, 0, 9));
        c.refused("sort 4", ARGUMENT, () -> x.bond(0, 1, 4));
        c.refused("sort -1", ARGUMENT, () -> x.bond(0, 1, -1));
        c.refused("with itself", ARGUMENT, () -> x.bond(7, 7, 0));
        c.refused("again", ARGUMENT, () -> x.bond(2, 5, 0));
        c.same("none came", x.told(1), 2);
        for (int b = 10; b < 14; b++) x.bond(2, b, 1);
        c.refused("a 7th", ROOM, () -> x.bond(2, 20, 0));
        c.refused("a 7th of the second", ROOM, () -> x.bond(20, 2, 0));
        c.refused("the sort comes first", ARGUMENT, () -> x.bond(20, 2, 4));
        c.refused("one of a full atom again", ARGUMENT, () -> x.bond(2, 5, 0));
        for (int a = 14; x.told(1) < 40; a++) for (int b = a + 1; b < 32 && x.told(1) < 40 && x.atomTold(a, 1) < 6; b++) if (x.atomTold(b, 1) < 6) x.bond(a, b, 0);
        c.refused("a 41st", ROOM, () -> x.bond(0, 1, 0));
        c.refused("a 41st of a wrong sort", ARGUMENT, () -> x.bond(0, 1, 7));
        c.refused("a 41st of no atom", INDEX, () -> x.bond(0, 40, 7));
    }

    private void promise04_cut() {
        RingSearch x = Checks.molecule("a1=b#c:d1");
        c.refused("bond 4", INDEX, () -> x.cut(4));
        c.refused("bond -1", INDEX, () -> x.cut(-1));
        c.same("rings before", x.told(3), 1);
        c.same("left", x.cut(1), 3);
        c.same("one behind it", x.bondTold(1, 0), 3);
        c.same("its atoms", x.bondTold(1, 1) * 10 + x.bondTold(1, 2), 23);
        c.same("the last", x.bondTold(2, 1) * 10 + x.bondTold(2, 2), 3);
        c.same("the first stays", x.bondTold(0, 0), 1);
        c.same("no ring is left", x.told(3), 0);
        c.same("atom's bonds", x.atomTold(1, 1), 1);
        c.same("it may come again", x.bond(1, 2, 0), 3);
        c.same("a ring again", x.told(3), 1);
        c.refused("gone", INDEX, () -> x.bondTold(4, 0));
        for (int left = 3; left >= 0; left--) c.same("all", x.cut(0), left);
        c.refused("none is left", INDEX, () -> x.cut(0));
    }

    private void promise05_atomTold() {
        RingSearch x = Checks.molecule("p.a1ab1.c(d)e2eeeee2.f");
        c.same("label", x.atomTold(0, 0), 15);
        c.same("bonds", x.atomTold(4, 1), 2);
        c.same("no bonds", x.atomTold(0, 1), 0);
        int[] parts = {0, 1, 1, 1, 2, 2, 2, 2, 2, 2, 2, 2, 3};
        for (int a = 0; a < parts.length; a++) c.same("part of " + a, x.atomTold(a, 2), parts[a]);
        c.same("rings", x.atomTold(1, 3), 1);
        c.same("no ring", x.atomTold(5, 3), 0);
        c.same("least cycle", x.atomTold(3, 4), 3);
        c.same("least cycle of six", x.atomTold(6, 4), 6);
        c.same("no cycle", x.atomTold(4, 4), 0);
        c.refused("what 5", ARGUMENT, () -> x.atomTold(0, 5));
        c.refused("what -1", ARGUMENT, () -> x.atomTold(0, -1));
        c.refused("atom 13", INDEX, () -> x.atomTold(13, 0));
        c.refused("the atom comes first", INDEX, () -> x.atomTold(-1, 9));
        RingSearch n = Checks.molecule(NAPHTHALENE);
        c.same("an atom of two rings", n.atomTold(4, 3), 2);
    }

    private void promise06_bondTold() {
        RingSearch x = Checks.molecule("a1#b=c1:d2-e3f2g3");
        c.same("sort", x.bondTold(0, 0), 2);
        c.same("sort of a closure", x.bondTold(2, 0), 0);
        c.same("lesser", x.bondTold(2, 1), 0);
        c.same("greater", x.bondTold(2, 2), 2);
        c.same("bridge", x.bondTold(3, 3), 1);
        c.same("no bridge", x.bondTold(2, 3), 0);
        c.same("rings of a bridge", x.bondTold(3, 4), 0);
        c.same("system of a bridge", x.bondTold(3, 5), RingSearch.NONE);
        c.same("system 0", x.bondTold(0, 5), 0);
        c.same("system 1", x.bondTold(4, 5), 1);
        c.same("a bond of two rings", x.bondTold(5, 4), 2);
        c.refused("what 6", ARGUMENT, () -> x.bondTold(0, 6));
        c.refused("what -1", ARGUMENT, () -> x.bondTold(0, -1));
        c.refused("the bond comes first", INDEX, () -> x.bondTold(9, 9));
        RingSearch spiro = Checks.molecule("a1aa12aa2");
        c.same("rings that share an atom alone", spiro.bondTold(3, 5), 1);
        c.same("two systems", spiro.told(5), 2);
        RingSearch fused = Checks.molecule(NAPHTHALENE);
        c.same("rings that share a bond", fused.told(5), 1);
    }

    private void promise07_between() {
        RingSearch x = Checks.molecule("a1aaaaa1.aa");
        c.same("itself", x.between(3, 3), 0);
        c.same("a neighbour", x.between(0, 5), 1);
        c.same("the other side", x.between(0, 3), 3);
        c.same("the other part", x.between(0, 6), RingSearch.NONE);
        c.refused("a", INDEX, () -> x.between(8, 0));
        c.refused("b", INDEX, () -> x.between(0, -1));
    }

    private void promise08_ring() {
        RingSearch x = Checks.molecule("aa1aaaa2aaaaa12");
        c.same("rings", x.told(3), 2);
        c.same("six before seven", Long.bitCount(x.ring(0)) * 10 + Long.bitCount(x.ring(1)), 66);
        c.same("of one size by their bits", x.ring(0) < x.ring(1), true);
        c.refused("ring 2", INDEX, () -> x.ring(2));
        c.refused("ring -1", INDEX, () -> x.ring(-1));
        RingSearch k4 = Checks.molecule("a12a3a1a23");
        c.same("rings of four atoms all bonded", k4.told(3), 3);
        RingSearch cube = Checks.molecule("a12a3a4a1a5a4a3a25");
        c.same("a cube has twelve bonds", cube.told(1), 12);
        c.same("five of the six faces", cube.told(3), 5);
        for (int i = 0; i < 5; i++) c.same("a face", Long.bitCount(cube.ring(i)), 4);
        RingSearch y = Checks.molecule("a1aa1");
        c.same("a closure's bit", y.ring(0), 7L);
    }

    private void promise09_ringAtom() {
        RingSearch x = new RingSearch();
        for (int i = 0; i < 6; i++) x.atom(0);
        int[][] bonds = {{3, 1}, {1, 5}, {5, 2}, {2, 4}, {4, 3}};
        for (int[] b : bonds) x.bond(b[0], b[1], 0);
        int[] row = {1, 3, 4, 2, 5};
        for (int j = 0; j < 5; j++) c.same("atom " + j, x.ringAtom(0, j), row[j]);
        c.refused("atom 5", INDEX, () -> x.ringAtom(0, 5));
        c.refused("atom -1", INDEX, () -> x.ringAtom(0, -1));
        c.refused("ring 1", INDEX, () -> x.ringAtom(1, 0));
        c.refused("ring -1", INDEX, () -> x.ringAtom(-1, 0));
    }

    private void promise10_cycles() {
        RingSearch k5 = Checks.molecule("a123a45a16a24a356");
        c.same("it has all bonds", k5.told(1), 10);
        c.same("of 3", k5.cycles(3), 10);
        c.same("of 4", k5.cycles(4), 15);
        c.same("of 5", k5.cycles(5), 12);
        c.same("of 6", k5.cycles(6), 0);
        k5.cut(9);
        c.same("of 3 with a bond less", k5.cycles(3), 7);
        RingSearch seven = Checks.molecule("a1aaaaaa1");
        c.same("of 7", seven.cycles(7), 1);
        c.same("eight are not seven", Checks.molecule("a1aaaaaaa1").cycles(7), 0);
        for (int bad : new int[] {2, 8, -1, 0, Integer.MAX_VALUE}) c.refused("size " + bad, ARGUMENT, () -> seven.cycles(bad));
    }

    private void promise11_isSum() {
        RingSearch x = Checks.molecule("a1aa1.a2aa2a");
        c.same("none", x.isSum(0), true);
        c.same("a cycle", x.isSum(7), true);
        c.same("both", x.isSum(63), true);
        c.same("part of one", x.isSum(3), false);
        c.same("with a bridge", x.isSum(71), false);
        c.same("a bond that there is not", x.isSum(7 | 1L << 7), false);
        c.same("the highest bit", x.isSum(7 | Long.MIN_VALUE), false);
        c.same("no molecule", new RingSearch().isSum(1), false);
    }

    private void promise12_feed() {
        RingSearch x = new RingSearch();
        for (int bad : new int[] {0, 9, -1, Integer.MIN_VALUE, Integer.MAX_VALUE}) c.refused("n " + bad, ARGUMENT, () -> x.feed(0, bad));
        c.same("two of three bytes", x.feed(0x7A6162L, 2), 2);
        c.same("one", x.feed(0xFFFFFF63L, 1), 3);
        c.same("read in order", x.read(), 3);
        c.same("labels", x.atomTold(0, 0) * 100 + x.atomTold(1, 0) * 10 + x.atomTold(2, 0), 12);
        for (int i = 1; i <= 24; i++) c.same("eight", x.feed(0, 8), 8 * i);
        c.refused("n comes first", ARGUMENT, () -> x.feed(0, 9));
        c.same("more", x.feed(0, 1), 193);
        c.refused("201 bytes", ROOM, () -> x.feed(0, 8));
        c.same("nothing came", x.told(9), 193);
        c.same("200 bytes", x.feed(0, 7), 200);
        c.refused("full", ROOM, () -> x.feed(0, 1));
    }

    private void promise13_read() {
        RingSearch x = new RingSearch();
        c.same("atoms", Checks.read(x, "a=b(#c(:d)-e)f1(gh1).p1"), -24);
        c.same("code", x.fault(), 5);
        c.same("nothing changes", x.told(0) + x.told(1), 0);
        c.same("the tape neither", x.told(9), 23);
        c.same("mended behind it", Checks.read(x, "aa1"), 11);
        c.same("the tape is empty", x.told(9), 0);
        int[][] bonds = {{0, 1, 1}, {1, 2, 2}, {2, 3, 3}, {2, 4, 0}, {1, 5, 0}, {5, 6, 0}, {6, 7, 0}, {5, 7, 0}, {8, 9, 0}, {9, 10, 0}, {8, 10, 0}};
        c.same("a bond where a closure is closed", x.told(1), bonds.length);
        for (int k = 0; k < bonds.length; k++)
            c.same("bond " + k, x.bondTold(k, 1) + " " + x.bondTold(k, 2) + " " + x.bondTold(k, 0), bonds[k][0] + " " + bonds[k][1] + " " + bonds[k][2]);
        c.same("a branch open at the end", Checks.read(x, "a(b"), -4);
        c.same("closed behind it", Checks.read(x, ")c"), 3);
        c.same("a sign at the end", Checks.read(x, "a="), -3);
        c.same("its atom behind it", Checks.read(x, "bc") * 10 + x.bondTold(1, 0), 30);
        c.same("in place of it", Checks.read(x, "a"), 1);
        c.same("no bonds then", x.told(1), 0);
        c.same("a figure open beyond a .", Checks.read(x, "a1.b=1"), 2);
        c.same("it is one part", x.told(2) * 10 + x.bondTold(0, 0), 11);
        c.same("a sort told first", Checks.molecule("a=1bc1").bondTold(2, 0), 1);
        c.same("a sort told at both", Checks.molecule("a#1bc#1").bondTold(2, 0), 2);
        c.same("sort - told", Checks.molecule("a-1bc1").bondTold(2, 0), 0);
        c.same("a figure again", Checks.molecule("a1bc11de1").told(3), 2);
        c.same("a bond behind branches", Checks.molecule("a(b)(c)d").bondTold(2, 1), 0);
    }

    private void promise13_read_faults() {
        faultOf(false, "", 1, 0);
        faultOf(false, "a-", 1, 2);
        faultOf(false, "(a)", 1, 0);
        faultOf(false, "-a", 1, 0);
        faultOf(false, "1", 1, 0);
        faultOf(false, "q", 1, 0);
        faultOf(false, "A", 1, 0);
        faultOf(false, "a0", 1, 1);
        faultOf(false, "a\0", 1, 1);
        faultOf(false, "a\u00e1", 1, 1);
        faultOf(false, "a()", 1, 2);
        faultOf(false, "a((b))", 1, 2);
        faultOf(false, "a(=)", 1, 3);
        faultOf(false, "a(b", 1, 3);
        faultOf(false, "a)", 1, 1);
        faultOf(false, "a(b)1c1", 1, 4);
        faultOf(false, "a(b)=1", 1, 5);
        faultOf(false, "a(1b)", 1, 2);
        faultOf(false, "a=(b)", 1, 2);
        faultOf(false, "a--b", 1, 2);
        faultOf(false, "a.", 1, 2);
        faultOf(false, ".a", 1, 0);
        faultOf(false, "a..b", 1, 2);
        faultOf(false, "a.-b", 1, 2);
        faultOf(false, "a(b.c)", 1, 3);
        faultOf(false, "a-.b", 1, 2);
        faultOf(false, "a1(b", 1, 4);
        for (String onlyOfPatterns : new String[] {"?", "[a]", "a*a", "a-@a", "a-/a"}) faultOf(false, onlyOfPatterns, 1, onlyOfPatterns.indexOf('a') == 0 ? onlyOfPatterns.contains("*") ? 1 : 2 : 0);
        c.same("eight are open", Checks.molecule("a(a(a(a(a(a(a(a(a))))))))").told(0), 9);
        faultOf(false, "a(a(a(a(a(a(a(a(a(a)))))))))", 2, 17);
        faultOf(false, "a(a(a(a(a(a(a(a(((", 1, 16);
        faultOf(false, "a".repeat(33), 3, 32);
        faultOf(false, "a.".repeat(32) + "a", 3, 64);
        c.same("32 atoms", Checks.molecule("a".repeat(32)).told(0), 32);
        faultOf(false, "a11", 4, 2);
        faultOf(false, "a1a1", 4, 3);
        faultOf(false, "a=1aa#1", 4, 6);
        faultOf(false, "a-1aa=1", 4, 6);
        faultOf(false, "a(a)(a)(a)(a)(a)(a)a", 4, 19);
        faultOf(false, "aa(a)(a)(a)(a)(a)(a)", 4, 18);
        faultOf(false, "a1(a)(a)(a)(a)(a)aa1", 4, 19);
        faultOf(false, "a(a)(a)(a)(a)(a)a.aa", 0, 0);
        faultOf(false, "a1", 5, 2);
        faultOf(false, "a1.b2", 5, 5);
        String full = fortyBonds();
        c.same("forty bonds", Checks.molecule(full).told(1), 40);
        faultOf(false, full + "a", 3, full.length());
        faultOf(false, full + ".a1a1", 3, full.length() + 3);
        faultOf(false, full + ".a11", 3, full.length() + 3);
        faultOf(false, full + ".a", 0, 0);
    }

    /** Ten times four atoms all but one of them bonded, hung together as a line. */
    private static String fortyBonds() {
        StringBuilder out = new StringBuilder("a12a3a1a23");
        for (int i = 0; i < 4; i++) out.append("a12a3a1a23");
        out.append("a1aa1aa");
        return out.toString();
    }

    private void faultOf(boolean ofPattern, String line, int code, int place) {
        RingSearch x = Checks.molecule("pa1aa1");
        Checks.pattern(x, "p?");
        Checks.feed(x, line);
        int got = ofPattern ? x.pattern() : x.read();
        String name = (ofPattern ? "pattern " : "line ") + line;
        c.same("fault of " + name, x.fault(), code);
        if (code == 0) { c.same(name + " is taken", got > 0 && x.told(9) == 0, true); return; }
        c.same(name + ": the place of its fault", got, -1 - place);
        c.same(name + ": nothing changes", x.told(0) + " " + x.told(1) + " " + x.told(6) + " " + x.told(7) + " " + x.told(9), "4 4 2 1 " + line.length());
        c.same(name + ": the molecule stays", x.atomTold(0, 0) + " " + x.told(3) + " " + x.search(), "15 1 1");
    }

    private void promise14_pattern() {
        RingSearch x = new RingSearch();
        c.same("atoms", Checks.pattern(x, "?[ab!=3]*@a1-/[?~]=b1"), 5);
        c.same("told", x.told(6) * 10 + x.told(7), 55);
        c.same("the tape is empty", x.told(9), 0);
        c.same("the molecule is not touched", x.told(0), 0);
        c.same("in place of it", Checks.pattern(x, "a"), 1);
        c.same("told then", x.told(6) * 10 + x.told(7), 10);
        c.same("a fault", Checks.pattern(x, "aa.a"), -3);
        c.same("nothing changes", x.told(6) * 10 + x.told(7), 10);
    }

    private void promise14_pattern_faults() {
        faultOf(true, "", 1, 0);
        faultOf(true, "a.a", 1, 1);
        faultOf(true, "[]", 1, 1);
        faultOf(true, "[!]", 1, 1);
        faultOf(true, "[=3]", 1, 1);
        faultOf(true, "[?a]", 1, 2);
        faultOf(true, "[a?]", 1, 2);
        faultOf(true, "[q]", 1, 1);
        faultOf(true, "[a!~]", 1, 3);
        faultOf(true, "[a=3!]", 1, 4);
        faultOf(true, "[a=0]", 1, 3);
        faultOf(true, "[a=7]", 1, 3);
        faultOf(true, "[a=]", 1, 3);
        faultOf(true, "[a=33]", 1, 4);
        faultOf(true, "[a", 1, 2);
        faultOf(true, "[", 1, 1);
        faultOf(true, "[a=", 1, 3);
        faultOf(true, "[[a]]", 1, 1);
        faultOf(true, "a]", 1, 1);
        faultOf(true, "a!", 1, 1);
        faultOf(true, "a~", 1, 1);
        faultOf(true, "a@a", 1, 1);
        faultOf(true, "a/a", 1, 1);
        faultOf(true, "a@1aa1", 1, 1);
        faultOf(true, "a-@@a", 1, 3);
        faultOf(true, "a-@/a", 1, 3);
        faultOf(true, "a@-a", 1, 1);
        faultOf(true, "a-*a", 1, 2);
        faultOf(true, "a-@(a)", 1, 3);
        faultOf(true, "[aap!=6]", 0, 0);
        faultOf(true, "[?~=1]#@1(*@b)(-/c)[p]1", 4, 22);
        faultOf(true, "[?~=1]#@1(*@b)(-/c)[p](a)a1", 0, 0);
        faultOf(true, "a-@1aa-@1", 0, 0);
        faultOf(true, "a-@1aa1", 0, 0);
        faultOf(true, "a1aa*/1", 0, 0);
        faultOf(true, "a-@1aa-1", 4, 7);
        faultOf(true, "a-@1aa-/1", 4, 8);
        faultOf(true, "a*1aa-1", 4, 6);
        faultOf(true, "a*1aa1", 0, 0);
        faultOf(true, "a".repeat(10), 0, 0);
        faultOf(true, "a".repeat(11), 3, 10);
        faultOf(true, "a".repeat(10) + "[z]", 3, 10);
        faultOf(true, "a(a(a(a(a(a(a(a(a(a)))))))))", 2, 17);
        String twelve = "a12a3a4a1a5a4a3a25";
        faultOf(true, twelve + "aa", 0, 0);
        faultOf(true, "a12a3a4a1a5a4a36a25aa6", 3, 21);
        faultOf(true, "a126a37a46a17a5a4a3a25", 0, 0);
        faultOf(true, "a126a37a46a17a5a4a3a25[z]", 3, 22);
        faultOf(true, "a(a)(a)(a)(a)(a)(a)[z]", 4, 19);
        faultOf(true, "a1", 5, 2);
        faultOf(true, "a11", 4, 2);
    }

    private void promise15_fault() {
        RingSearch x = new RingSearch();
        c.same("before", x.fault(), 0);
        Checks.read(x, "a1");
        c.same("of read()", x.fault(), 5);
        Checks.feed(x, "a(");
        c.same("by feed() it stays", x.fault(), 5);
        c.same("of pattern()", x.pattern(), -5);
        c.same("its code", x.fault(), 1);
        RingSearch y = new RingSearch();
        y.read();
        c.same("an empty tape", y.fault(), 1);
        Checks.read(y, "a");
        c.same("none", y.fault(), 0);
        y.pattern();
        c.same("an empty tape is no pattern", y.fault(), 1);
    }

    private void promise16_write() {
        for (String same : new String[] {"a", "p.a", "abc", "a(b)c", "a(=b)(#c):d", "a1bc1", "a=1bc1", "a(b(c)d)e", "a1b2c1d2",
                "a12bc1d2", "a1bc11de1", "a(b1cd1)e.e1fg1", "a1aaaa11aa2aaaa2a1"})
            c.same("" + same, Checks.written(Checks.molecule(same)), same);
        c.same("- is not written", Checks.written(Checks.molecule("a-b-1cd-1")), "ab1cd1");
        c.same("the last branch bare", Checks.written(Checks.molecule("a(b)(c)")), "a(b)c");
        c.same("the least figure", Checks.written(Checks.molecule("a9bc9")), "a1bc1");
        c.same("a closure's sign at its first place", Checks.written(Checks.molecule("a1bc:1")), "a:1bc1");
        RingSearch x = new RingSearch();
        for (int i = 0; i < 4; i++) x.atom(i);
        x.bond(3, 1, 1);
        x.bond(1, 0, 0);
        x.bond(3, 0, 2);
        c.same("by least atoms and bonds' numbers", Checks.written(x), "a#1b=d1.c");
        c.same("bytes", x.write(), 9);
        RingSearch nine = manyOpen(9);
        c.same("nine open", Checks.written(nine) != null, true);
        RingSearch ten = manyOpen(10);
        c.same("ten open", ten.write(), RingSearch.NONE);
        c.same("nothing is written", ten.told(10), 0);
        c.refused("no byte", INDEX, () -> ten.written(0));
        ten.clear();
        c.same("without atoms", ten.write(), 0);
        Checks.read(ten, "a5bc5");
        c.same("figures are free again", Checks.written(ten), "a1bc1");
    }

    /** A row of atoms, from each of the first ones a closure to one of the last. */
    private static RingSearch manyOpen(int n) {
        RingSearch x = new RingSearch();
        for (int i = 0; i < 2 * n; i++) x.atom(0);
        for (int i = 1; i < 2 * n; i++) x.bond(i - 1, i, 0);
        for (int i = 0; i < n; i++) x.bond(i, i + n, 0);
        return x;
    }

    private void promise17_written() {
        RingSearch x = Checks.molecule("ab=c");
        c.same("bytes", x.write(), 4);
        c.same("byte 2", x.written(2), 61);
        c.refused("byte 4", INDEX, () -> x.written(4));
        c.refused("byte -1", INDEX, () -> x.written(-1));
        x.clear();
        c.same("it stays", x.written(3), 99);
        x.write();
        c.refused("written anew", INDEX, () -> x.written(0));
    }

    private void promise18_search() {
        RingSearch x = Checks.molecule("a1aaaaa1b");
        c.same("none without a pattern", x.search(), RingSearch.NONE);
        Checks.pattern(x, "a1aaaaa1");
        c.same("a ring of six", x.search(), 12);
        c.same("alike", x.sets(), 1);
        Checks.pattern(x, "ab");
        c.same("one", x.search(), 1);
        Checks.pattern(x, "c");
        c.same("none", x.search(), 0);
        c.same("none is kept", x.told(8), 0);
        Checks.pattern(x, "?");
        c.same("all", x.search(), 7);
        x.clear();
        c.same("no molecule", x.search(), 0);
        Checks.read(x, "a1aa1b");
        Checks.pattern(x, "[?!]");
        c.same("atoms in a ring", x.search(), 3);
        x.cut(0);
        c.same("as they are now", x.search(), 0);
        RingSearch dense = Checks.molecule("a123a45a16a24a356");
        Checks.pattern(dense, "?????");
        c.same("rows of five atoms all bonded", dense.search(), 120);
    }

    private void promise18_search_wants() {
        String m = "a1=ba1-c#d(:e)=f";
        finds(m, "[?!]", 3);
        finds(m, "[?~]", 4);
        finds(m, "[?=1]", 2);
        finds(m, "[?=3]", 2);
        finds(m, "[a!=2]", 1);
        finds(m, "[ab]", 3);
        finds(m, "?-?", 6);
        finds(m, "?=?", 4);
        finds(m, "?#?", 2);
        finds(m, "?:?", 2);
        finds(m, "?*?", 14);
        finds(m, "??", 14);
        finds(m, "?*@?", 6);
        finds(m, "?*/?", 8);
        finds(m, "?-@?", 4);
        finds(m, "?-/?", 2);
        finds(m, "?=/?", 2);
        finds(m, "a(c)a", 1);
        finds(m, "?1??1", 6);
        finds(m, "?=@1??1", 2);
        finds(m, "?#1??1", 0);
        finds(m, "??????????", 0);
    }

    private void finds(String molecule, String pattern, int due) {
        RingSearch x = Checks.molecule(molecule);
        int n = Checks.pattern(x, pattern);
        c.same("the pattern " + pattern, n > 0, true);
        c.same("" + pattern + " in " + molecule, x.search(), due);
    }

    private void promise19_place() {
        RingSearch x = Checks.molecule("aaa");
        Checks.pattern(x, "??");
        c.same("found", x.search(), 4);
        List<String> rows = new ArrayList<>();
        for (int i = 0; i < 4; i++) rows.add(x.place(i, 0) + "" + x.place(i, 1));
        c.same("in order", rows.toString(), "[01, 10, 12, 21]");
        c.refused("place 4", INDEX, () -> x.place(4, 0));
        c.refused("place -1", INDEX, () -> x.place(-1, 0));
        c.refused("atom 2", INDEX, () -> x.place(0, 2));
        c.refused("atom -1", INDEX, () -> x.place(0, -1));
        x.clear();
        Checks.pattern(x, "???");
        c.same("it stays so", x.place(3, 0) * 10 + x.place(3, 1), 21);
        c.refused("as it was searched", INDEX, () -> x.place(0, 2));
        x.search();
        c.refused("of the latest search", INDEX, () -> x.place(0, 0));
        RingSearch last = Checks.molecule("a".repeat(31) + "b");
        Checks.pattern(last, "?????????b");
        c.same("the 32nd atom", last.search() * 100 + last.place(0, 9), 131);
        c.same("and the ones before", last.place(0, 0), 22);
    }

    private void promise20_sets() {
        RingSearch x = Checks.molecule("aaa");
        Checks.pattern(x, "??");
        x.search();
        c.same("two", x.sets(), 2);
        c.same("again", x.sets(), 2);
        Checks.read(x, "a1aaaaa1");
        c.same("it stays", x.sets(), 2);
        x.search();
        c.same("anew", x.sets(), 6);
        Checks.pattern(x, "b");
        x.search();
        c.same("none", x.sets(), 0);
        RingSearch last = Checks.molecule("a".repeat(32));
        Checks.pattern(last, "?");
        last.search();
        c.same("the 32nd atom", last.sets(), 32);
    }

    private void promise21_told() {
        RingSearch x = Checks.molecule("a1aa12aa2b.c");
        Checks.pattern(x, "?1??1");
        x.search();
        x.write();
        Checks.feed(x, "abc");
        int[] due = {7, 7, 2, 2, 1, 2, 3, 3, 12, 3, 12};
        for (int what = 0; what <= 10; what++) c.same("told(" + what + ")", x.told(what), due[what]);
        c.refused("told(11)", ARGUMENT, () -> x.told(11));
        c.refused("told(-1)", ARGUMENT, () -> x.told(-1));
        RingSearch many = densest();
        Checks.pattern(many, "?????");
        c.same("more than are kept", many.search() > 2000, true);
        c.same("2000 are kept", many.told(8), 2000);
        c.refused("no more", INDEX, () -> many.place(2000, 0));
        c.same("the last that is kept", many.place(1999, 0) >= 0, true);
    }

    private void promise22_clear() {
        RingSearch x = Checks.molecule("a1aa1b");
        Checks.pattern(x, "ab");
        x.search();
        x.write();
        Checks.read(x, "a1");
        x.clear();
        int[] due = {0, 0, 0, 0, 0, 0, 2, 1, 2, 2, 6};
        for (int what = 0; what <= 10; what++) c.same("told(" + what + ")", x.told(what), what == 8 ? 1 : due[what]);
        c.same("the fault stays", x.fault(), 5);
        c.same("the place stays", x.place(0, 1), 3);
        c.refused("no atom", INDEX, () -> x.atomTold(0, 0));
        c.same("numbers begin anew", x.atom(4), 0);
        c.same("no bonds of before", x.atomTold(0, 1), 0);
    }

    private static RingSearch densest() {
        RingSearch x = new RingSearch();
        for (int i = 0; i < 14; i++) x.atom(0);
        for (int step = 1; step <= 3; step++) for (int i = 0; i < 14 && x.told(1) < 40; i++) x.bond(i, (i + step) % 14, 0);
        return x;
    }

    private void promise08_the_densest_ends_in_time() { c.same("rings", densest().told(3), 27); }

    private void promise10_the_densest_ends_in_time() { c.same("cycles of seven", densest().cycles(7) > 1000, true); }

    private void promise18_the_densest_ends_in_time() {
        RingSearch x = densest();
        Checks.pattern(x, "??????????");
        c.same("rows of ten", x.search() > 100000, true);
        c.same("sets of ten", x.sets() > 1, true);
    }
}
