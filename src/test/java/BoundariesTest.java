import java.util.ArrayList;
import java.util.List;

/**
 * Each sentence of the document that names a boundary case (too small, too large, empty, full, a refused
 * call) has a test of its own: a method that is named after its promise's number. Sentences of the Terms
 * stand under the promise that shows them.
 */
public final class BoundariesTest {
    private static final String INDEX = "throws.IndexOutOfBoundsException";
    private static final String ARGUMENT = "throws.IllegalArgumentException";
    private static final String ROOM = "throws.UnsupportedOperationException";
    private static final int NONE = RingSearch.NONE;
    private static final int LEAST = Integer.MIN_VALUE;
    private static final int MOST = Integer.MAX_VALUE;

    /** All seven atoms bonded: 21 bonds, each atom has 6. */
    private static final int[][] K7 = allPairs(7);

    private final Checks c = new Checks();

    public static void main(String[] args) throws Exception {
        BoundariesTest t = new BoundariesTest();
        t.c.runPromises(t);
        System.exit(t.c.end("BoundariesTest"));
    }

    // ==== helpers

    private static int[][] allPairs(int n) {
        int[][] pairs = new int[n * (n - 1) / 2][];
        int k = 0;
        for (int a = 0; a < n; a++) for (int b = a + 1; b < n; b++) pairs[k++] = new int[] {a, b};
        return pairs;
    }

    private static RingSearch atoms(int n) {
        RingSearch x = new RingSearch();
        for (int i = 0; i < n; i++) x.atom(0);
        return x;
    }

    private static RingSearch made(int n, int[][] bonds) {
        RingSearch x = atoms(n);
        for (int[] b : bonds) x.bond(b[0], b[1], 0);
        return x;
    }

    /** A row of n atoms. */
    private static RingSearch row(int n) {
        RingSearch x = atoms(n);
        for (int i = 1; i < n; i++) x.bond(i - 1, i, 0);
        return x;
    }

    /** A ring of n atoms and bonds. */
    private static RingSearch circle(int n) {
        RingSearch x = row(n);
        x.bond(n - 1, 0, 0);
        return x;
    }

    /** 32 atoms, 40 bonds: a row, then nine closures far from each other's atoms. */
    private static RingSearch fullOfBonds() {
        RingSearch x = row(32);
        for (int i = 0; i < 9; i++) x.bond(i, i + 20, 0);
        return x;
    }

    private static RingSearch k7() { return made(7, K7); }

    /** Seven atoms all bonded, and seven all but for two bonds: 40 bonds, as many rings as there can be. */
    private static RingSearch mostRings() {
        RingSearch x = atoms(14);
        for (int[] b : K7) x.bond(b[0], b[1], 0);
        for (int i = 2; i < K7.length; i++) x.bond(7 + K7[i][0], 7 + K7[i][1], 0);
        return x;
    }

    private void is(String what, Object got, Object due) { c.same(what, got, due); }

    private void refused(String what, String due, Checks.Call call) { c.same(what, Checks.answer(call), due); }

    private static String state(RingSearch x) { return x.fault() + " " + stateButFault(x); }

    /** All that can be told of an object without a call that changes it, but for the fault. */
    private static String stateButFault(RingSearch x) {
        StringBuilder out = new StringBuilder();
        for (int what = 0; what <= 10; what++) out.append(x.told(what)).append(' ');
        out.append(x.sets()).append('|');
        for (int a = 0; a < x.told(0); a++) out.append(x.atomTold(a, 0)).append(',').append(x.atomTold(a, 1)).append(' ');
        out.append('|');
        for (int k = 0; k < x.told(1); k++) out.append(x.bondTold(k, 0)).append(',').append(x.bondTold(k, 1)).append(',').append(x.bondTold(k, 2)).append(' ');
        out.append('|');
        for (int i = 0; i < x.told(3); i++) out.append(x.ring(i)).append(' ');
        out.append('|');
        for (int i = 0; i < Math.min(3, x.told(8)); i++) out.append(x.place(i, 0)).append(' ');
        out.append('|');
        for (int i = 0; i < x.told(10); i++) out.append((char) x.written(i));
        return out.toString();
    }

    /** The call is refused so, and nothing changes by it. */
    private void refusedWhole(String what, RingSearch x, String due, Checks.Call call) {
        String before = state(x);
        refused(what, due, call);
        is(what + ": nothing changes", state(x), before);
    }

    /** An object of which everything but the tape is in use. */
    private static RingSearch usedButTape() {
        RingSearch x = Checks.molecule("a1=bc1-d.p");
        Checks.pattern(x, "[?!]?");
        x.search();
        x.write();
        return x;
    }

    private static RingSearch used() {
        RingSearch x = usedButTape();
        Checks.feed(x, "ab");
        return x;
    }

    /** A line with a fault leaves all as it is; the fault alone is told then. */
    private void changesNothing(boolean ofPattern, String line) {
        RingSearch x = usedButTape();
        Checks.feed(x, line);
        String before = stateButFault(x);
        is("it has a fault: " + line, take(x, ofPattern) < 0 && x.fault() > 0, true);
        is("nothing changes: " + line, stateButFault(x), before);
        is("molecule and pattern are what they were: " + line, x.search(), 7);
    }

    private static int take(RingSearch x, boolean ofPattern) { return ofPattern ? x.pattern() : x.read(); }

    private void taken(boolean ofPattern, String line, int atoms, int bonds) {
        RingSearch x = new RingSearch();
        Checks.feed(x, line);
        is(line, take(x, ofPattern), atoms);
        is(line + " has no fault", x.fault(), 0);
        is(line + " leaves the tape empty", x.told(9), 0);
        is(line + " bonds", x.told(ofPattern ? 7 : 1), bonds);
    }

    private void faulty(boolean ofPattern, String line, int code, int place) {
        RingSearch x = new RingSearch();
        Checks.feed(x, line);
        is(line, take(x, ofPattern), -1 - place);
        is(line + " code", x.fault(), code);
        is(line + " is no molecule, no pattern", x.told(0) + x.told(6), 0);
    }

    /** Just these bytes of all 256 can stand behind a text; at each other one there is fault 1. */
    private void standBehind(boolean ofPattern, String text, String bytes) {
        StringBuilder got = new StringBuilder();
        StringBuilder due = new StringBuilder();
        for (int b = 0; b < 256; b++) {
            if (bytes.indexOf(b) >= 0) due.append((char) b);
            RingSearch x = new RingSearch();
            Checks.feed(x, text + (char) b);
            boolean here = take(x, ofPattern) == -1 - text.length();
            if (!here || x.fault() != 1) got.append((char) b);
        }
        is("behind '" + text + "' can stand", got.toString(), due.toString());
    }

    private void endsBehind(boolean ofPattern, String text, boolean may) {
        RingSearch x = new RingSearch();
        Checks.feed(x, text);
        int got = take(x, ofPattern);
        is("'" + text + "' may end", got > 0, may);
        is("'" + text + "' fault", x.fault(), may ? 0 : 1);
        if (!may) is("'" + text + "' place", got, -1 - text.length());
    }

    private static final int[] NO_NUMBER = {-1, LEAST, MOST};

    private static int[] outside(int count) { return new int[] {-1, count, count + 1, LEAST, MOST}; }

    // ==== 1 a new object

    private void promise01_no_atoms() {
        RingSearch x = new RingSearch();
        for (int what = 0; what <= 5; what++) is("told(" + what + ")", x.told(what), 0);
        refused("atomTold", INDEX, () -> x.atomTold(0, 0));
        refused("bondTold", INDEX, () -> x.bondTold(0, 0));
        refused("bond", INDEX, () -> x.bond(0, 1, 0));
        refused("cut", INDEX, () -> x.cut(0));
        refused("between", INDEX, () -> x.between(0, 0));
        refused("ring", INDEX, () -> x.ring(0));
        refused("ringAtom", INDEX, () -> x.ringAtom(0, 0));
        for (int size = 3; size <= 7; size++) is("cycles of " + size, x.cycles(size), 0);
        is("no bonds are a sum", x.isSum(0), true);
        is("a bond is none", x.isSum(1), false);
    }

    private void promise01_an_empty_tape() {
        RingSearch x = new RingSearch();
        is("bytes", x.told(9), 0);
        is("the first fed", x.feed('a', 1), 1);
    }

    private void promise01_no_pattern() {
        RingSearch x = new RingSearch();
        is("its atoms", x.told(6), 0);
        is("its bonds", x.told(7), 0);
        is("search", x.search(), NONE);
    }

    private void promise01_nothing_written() {
        RingSearch x = new RingSearch();
        is("bytes", x.told(10), 0);
        refused("a byte", INDEX, () -> x.written(0));
    }

    private void promise01_nothing_found() {
        RingSearch x = new RingSearch();
        is("kept", x.told(8), 0);
        is("sets", x.sets(), 0);
        refused("a place", INDEX, () -> x.place(0, 0));
    }

    private void promise01_objects_share_nothing() {
        String fresh = state(new RingSearch());
        used();
        is("a second one", state(new RingSearch()), fresh);
    }

    private void promise01_holds_for_512_calls() {
        RingSearch x = new RingSearch();
        for (int i = 0; i < 85; i++) {
            x.feed(0x6131616131L, 5);
            is("read", x.read(), 3);
            is("ring", x.ring(0), 7L);
            is("cut", x.cut(i % 3), 2);
            is("no ring", x.told(3), 0);
            is("write", x.write(), i % 3 == 1 ? 5 : 3);
        }
        is("the 511th call", x.written(0), (int) 'a');
        is("the 512th call", x.told(1), 2);
    }

    // ==== 2 atom

    private void promise02_labels_from_0_to_15() {
        RingSearch x = new RingSearch();
        is("label 0", x.atom(0), 0);
        is("label 15", x.atom(15), 1);
        is("they are told", x.atomTold(0, 0) * 100 + x.atomTold(1, 0), 15);
    }

    private void promise02_another_label_is_refused() {
        RingSearch x = used();
        for (int bad : new int[] {-1, 16, 17, 32, LEAST, MOST}) refusedWhole("label " + bad, x, ARGUMENT, () -> x.atom(bad));
    }

    private void promise02_the_32nd_is_the_last() {
        RingSearch x = atoms(31);
        is("the 32nd", x.atom(15), 31);
        refusedWhole("the 33rd", x, ROOM, () -> x.atom(0));
        is("the last one's label", x.atomTold(31, 0), 15);
    }

    private void promise02_the_label_is_named_before_the_room() {
        RingSearch x = atoms(32);
        for (int bad : new int[] {-1, 16, LEAST, MOST}) refused("label " + bad, ARGUMENT, () -> x.atom(bad));
    }

    private void promise02_atoms_that_were_read_count() {
        RingSearch x = Checks.molecule("a".repeat(31));
        is("the 32nd", x.atom(3), 31);
        refused("the 33rd", ROOM, () -> x.atom(3));
    }

    private void promise02_room_comes_by_clear_and_read_not_by_cut() {
        RingSearch x = row(32);
        x.cut(0);
        refused("behind cut", ROOM, () -> x.atom(0));
        x.clear();
        is("behind clear", x.atom(1), 0);
        RingSearch y = row(32);
        Checks.read(y, "ab");
        is("behind read", y.atom(1), 2);
    }

    private void promise02_a_pattern_takes_no_room() {
        RingSearch x = atoms(31);
        Checks.pattern(x, "a".repeat(10));
        is("the 32nd", x.atom(0), 31);
    }

    private void promise02_a_new_atom_has_no_bonds() {
        RingSearch x = k7();
        x.clear();
        for (int i = 0; i < 7; i++) x.atom(i);
        for (int i = 0; i < 7; i++) is("atom " + i, x.atomTold(i, 1) * 100 + x.atomTold(i, 2), i);
    }

    // ==== 3 bond

    private void promise03_sorts_from_0_to_3() {
        RingSearch x = atoms(5);
        for (int sort = 0; sort < 4; sort++) is("sort " + sort, x.bond(sort, sort + 1, sort), sort);
        for (int sort = 0; sort < 4; sort++) is("told " + sort, x.bondTold(sort, 0), sort);
    }

    private void promise03_another_sort_is_refused() {
        RingSearch x = used();
        for (int bad : new int[] {-1, 4, 5, LEAST, MOST}) refusedWhole("sort " + bad, x, ARGUMENT, () -> x.bond(0, 3, bad));
    }

    private void promise03_no_such_atom() {
        RingSearch x = used();
        for (int bad : outside(5)) {
            refusedWhole("a " + bad, x, INDEX, () -> x.bond(bad, 0, 0));
            refusedWhole("b " + bad, x, INDEX, () -> x.bond(0, bad, 0));
        }
        RingSearch full = atoms(32);
        refused("atom 32", INDEX, () -> full.bond(31, 32, 0));
        is("atom 31", full.bond(31, 0, 0), 0);
    }

    private void promise03_no_atom_with_itself() {
        RingSearch x = used();
        for (int a = 0; a < 5; a++) { int same = a; refusedWhole("atom " + a, x, ARGUMENT, () -> x.bond(same, same, 0)); }
    }

    private void promise03_of_two_atoms_one_at_most() {
        RingSearch x = used();
        refusedWhole("again", x, ARGUMENT, () -> x.bond(0, 1, 1));
        refusedWhole("the other way round", x, ARGUMENT, () -> x.bond(1, 0, 1));
        refusedWhole("of another sort", x, ARGUMENT, () -> x.bond(2, 0, 3));
        RingSearch far = atoms(32);
        far.bond(0, 31, 0);
        refused("atoms 0 and 31", ARGUMENT, () -> far.bond(31, 0, 0));
    }

    private void promise03_the_40th_is_the_last() {
        RingSearch x = fullOfBonds();
        is("bonds", x.told(1), 40);
        refusedWhole("the 41st", x, ROOM, () -> x.bond(9, 29, 0));
        is("one goes", x.cut(39), 39);
        is("the 40th", x.bond(9, 29, 3), 39);
        refused("the 41st again", ROOM, () -> x.bond(8, 28, 0));
    }

    private void promise03_bonds_that_were_read_count() {
        RingSearch x = Checks.molecule(Lines.FORTY_BONDS);
        is("bonds", x.told(1), 40);
        x.atom(0);
        refused("the 41st", ROOM, () -> x.bond(0, x.told(0) - 1, 0));
    }

    private void promise03_the_6th_of_an_atom_is_the_last() {
        RingSearch x = atoms(9);
        for (int b = 1; b <= 6; b++) is("bond to " + b, x.bond(0, b, 0), b - 1);
        is("its bonds", x.atomTold(0, 1), 6);
        refusedWhole("the 7th of a", x, ROOM, () -> x.bond(0, 7, 0));
        refusedWhole("the 7th of b", x, ROOM, () -> x.bond(7, 0, 0));
        is("others may", x.bond(7, 8, 0), 6);
        x.cut(2);
        is("behind cut", x.bond(7, 0, 0), 6);
        refused("the 7th again", ROOM, () -> x.bond(8, 0, 0));
    }

    private void promise03_both_have_six() {
        RingSearch x = Checks.molecule("a(a)(a)(a)(a)(a)a.a(a)(a)(a)(a)(a)a");
        refusedWhole("a 7th of both", x, ROOM, () -> x.bond(0, 7, 0));
    }

    private void promise03_the_atoms_are_named_first() {
        RingSearch x = fullOfBonds();
        refused("no atom, no sort", INDEX, () -> x.bond(32, 0, 4));
        refused("no atom twice", INDEX, () -> x.bond(-1, -1, 0));
        refused("a second atom that is none, no sort", INDEX, () -> x.bond(0, LEAST, -1));
        refused("no atom, no room", INDEX, () -> x.bond(0, MOST, 0));
        RingSearch none = new RingSearch();
        refused("no atoms, no sort", INDEX, () -> none.bond(0, 0, 9));
    }

    private void promise03_a_wrong_bond_is_named_before_the_room() {
        RingSearch x = fullOfBonds();
        refused("the sort, with 40", ARGUMENT, () -> x.bond(9, 29, 4));
        refused("itself, with 40", ARGUMENT, () -> x.bond(9, 9, 0));
        refused("again, with 40", ARGUMENT, () -> x.bond(0, 1, 0));
        RingSearch y = made(8, K7);
        refused("the sort, with 6", ARGUMENT, () -> y.bond(0, 7, -1));
        refused("itself, with 6", ARGUMENT, () -> y.bond(0, 0, 0));
        refused("again, with 6", ARGUMENT, () -> y.bond(6, 0, 0));
    }

    // ==== 4 cut

    private void promise04_no_such_bond() {
        RingSearch x = used();
        for (int bad : outside(4)) refusedWhole("bond " + bad, x, INDEX, () -> x.cut(bad));
        RingSearch lone = atoms(2);
        refused("no bonds", INDEX, () -> lone.cut(0));
        RingSearch full = fullOfBonds();
        refused("bond 40", INDEX, () -> full.cut(40));
    }

    private void promise04_the_first_the_last_one_between() {
        for (int gone : new int[] {0, 2, 4}) {
            RingSearch x = atoms(6);
            for (int k = 0; k < 5; k++) x.bond(k, k + 1, k % 4);
            is("left", x.cut(gone), 4);
            for (int k = 0; k < 4; k++) {
                int was = k < gone ? k : k + 1;
                is("cut " + gone + " bond " + k, x.bondTold(k, 0) + " " + x.bondTold(k, 1) + " " + x.bondTold(k, 2), was % 4 + " " + was + " " + (was + 1));
            }
            refused("bond 4", INDEX, () -> x.bondTold(4, 0));
            is("atoms stay", x.told(0), 6);
            is("their bonds", x.atomTold(gone, 1) + x.atomTold(gone + 1, 1), gone == 2 ? 2 : 1);
        }
    }

    private void promise04_all_of_40() {
        RingSearch x = fullOfBonds();
        for (int left = 39; left >= 0; left--) is("left", x.cut(left % 2 == 0 ? 0 : left), left);
        refused("no more", INDEX, () -> x.cut(0));
        is("parts", x.told(2), 32);
    }

    private void promise04_rings_have_the_new_numbers() {
        RingSearch x = made(5, new int[][] {{0, 1}, {1, 2}, {2, 3}, {3, 4}, {4, 2}});
        is("before", x.ring(0), 0b11100L);
        x.cut(0);
        is("behind", x.ring(0), 0b1110L);
        x.cut(3);
        is("no ring", x.told(3), 0);
        refused("ring 0", INDEX, () -> x.ring(0));
    }

    // ==== 5 atomTold

    private void promise05_no_such_atom() {
        RingSearch x = used();
        for (int bad : outside(5)) for (int what = 0; what <= 4; what++) { int w = what; refused("atom " + bad, INDEX, () -> x.atomTold(bad, w)); }
        x.clear();
        refused("behind clear", INDEX, () -> x.atomTold(0, 0));
    }

    private void promise05_another_what() {
        RingSearch x = used();
        for (int bad : new int[] {-1, 5, 6, LEAST, MOST}) refused("what " + bad, ARGUMENT, () -> x.atomTold(0, bad));
    }

    private void promise05_the_atom_is_named_first() {
        RingSearch x = used();
        for (int bad : outside(5)) refused("atom " + bad, INDEX, () -> x.atomTold(bad, 5));
        for (int bad : outside(5)) refused("atom " + bad, INDEX, () -> x.atomTold(bad, -1));
    }

    private void promise05_the_32nd_atom() {
        RingSearch x = circle(32);
        int[] due = {0, 2, 0, 1, 32};
        for (int what = 0; what <= 4; what++) is("what " + what, x.atomTold(31, what), due[what]);
    }

    private void promise05_an_atom_alone() {
        RingSearch x = new RingSearch();
        x.atom(7);
        int[] due = {7, 0, 0, 0, 0};
        for (int what = 0; what <= 4; what++) is("what " + what, x.atomTold(0, what), due[what]);
    }

    private void promise05_six_bonds_and_many_rings() {
        RingSearch x = k7();
        is("bonds", x.atomTold(6, 1), 6);
        is("rings of atom 0: all of three bonds that are kept", x.atomTold(0, 3), 15);
        is("rings of atom 6", x.atomTold(6, 3), 5);
        is("least", x.atomTold(6, 4), 3);
    }

    private void promise05_parts_by_their_least_atoms() {
        RingSearch x = atoms(32);
        for (int a = 0; a < 32; a++) is("32 parts", x.atomTold(a, 2), a);
        x.bond(31, 0, 0);
        is("the last one", x.atomTold(31, 2), 0);
        is("the one before", x.atomTold(30, 2), 30);
        x.bond(30, 2, 0);
        is("the third", x.atomTold(30, 2), 2);
        x.cut(0);
        is("cut off", x.atomTold(31, 2), 30);
    }

    private void promise05_no_cycle_is_0() {
        RingSearch x = Checks.molecule("a1aa1aa2aa2");
        is("between two rings", x.atomTold(3, 3) * 10 + x.atomTold(3, 4), 0);
        is("a ring", x.atomTold(2, 3) * 10 + x.atomTold(2, 4), 13);
        x.cut(1);
        is("the ring is cut", x.atomTold(2, 3) * 10 + x.atomTold(2, 4), 0);
        is("the other stays", x.atomTold(4, 3) * 10 + x.atomTold(4, 4), 13);
    }

    private void promise05_the_least_of_two_cycles() {
        RingSearch x = Checks.molecule("a12aaa1aaa2");
        is("of 4 and 5", x.atomTold(0, 4), 4);
        is("an atom of the greater alone", x.atomTold(5, 4), 5);
    }

    // ==== 6 bondTold

    private void promise06_no_such_bond() {
        RingSearch x = used();
        for (int bad : outside(4)) for (int what = 0; what <= 5; what++) { int w = what; refused("bond " + bad, INDEX, () -> x.bondTold(bad, w)); }
        RingSearch full = fullOfBonds();
        refused("bond 40", INDEX, () -> full.bondTold(40, 0));
    }

    private void promise06_another_what() {
        RingSearch x = used();
        for (int bad : new int[] {-1, 6, 7, LEAST, MOST}) refused("what " + bad, ARGUMENT, () -> x.bondTold(0, bad));
    }

    private void promise06_the_bond_is_named_first() {
        RingSearch x = used();
        for (int bad : outside(4)) refused("bond " + bad, INDEX, () -> x.bondTold(bad, 6));
        for (int bad : outside(4)) refused("bond " + bad, INDEX, () -> x.bondTold(bad, -1));
    }

    private void promise06_the_40th_bond() {
        RingSearch x = fullOfBonds();
        int[] due = {0, 8, 28, 0, 1, 0};
        for (int what = 0; what <= 5; what++) is("what " + what, x.bondTold(39, what), due[what]);
    }

    private void promise06_the_lesser_atom_comes_first() {
        RingSearch x = atoms(32);
        x.bond(31, 0, 2);
        is("lesser", x.bondTold(0, 1), 0);
        is("greater", x.bondTold(0, 2), 31);
    }

    private void promise06_a_bridge_is_in_nothing() {
        RingSearch x = Checks.molecule("a1aa1aa2aa2");
        for (int k : new int[] {3, 4}) is("bond " + k, x.bondTold(k, 3) + " " + x.bondTold(k, 4) + " " + x.bondTold(k, 5), "1 0 -1");
        for (int k : new int[] {0, 1, 2}) is("bond " + k, x.bondTold(k, 3) + " " + x.bondTold(k, 4) + " " + x.bondTold(k, 5), "0 1 0");
        for (int k : new int[] {5, 6, 7}) is("bond " + k, x.bondTold(k, 3) + " " + x.bondTold(k, 4) + " " + x.bondTold(k, 5), "0 1 1");
    }

    private void promise06_all_of_a_cut_ring_are_bridges() {
        RingSearch x = circle(32);
        is("before", x.bondTold(31, 3), 0);
        x.cut(0);
        for (int k = 0; k < 31; k++) is("bond " + k, x.bondTold(k, 3) * 10 + x.bondTold(k, 5), 9);
    }

    private void promise06_systems_by_their_least_bonds() {
        RingSearch x = made(6, new int[][] {{3, 4}, {0, 1}, {1, 2}, {2, 0}, {4, 5}, {5, 3}});
        int[] due = {0, 1, 1, 1, 0, 0};
        for (int k = 0; k < 6; k++) is("bond " + k, x.bondTold(k, 5), due[k]);
    }

    private void promise06_an_atom_alone_leads_no_systems_together() {
        RingSearch x = Checks.molecule("a1aa12aa2");
        is("systems", x.told(5), 2);
        is("the first", x.bondTold(0, 5), 0);
        is("the last", x.bondTold(5, 5), 1);
    }

    private void promise06_rings_lead_together_over_others() {
        RingSearch x = Checks.molecule("a1a2aa3aaa3a2a1");
        is("rings", x.told(3), 3);
        for (int k = 0; k < x.told(1); k++) is("bond " + k, x.bondTold(k, 5), 0);
    }

    // ==== 7 between

    private void promise07_no_such_atom() {
        RingSearch x = used();
        for (int bad : outside(5)) {
            refused("a " + bad, INDEX, () -> x.between(bad, 0));
            refused("b " + bad, INDEX, () -> x.between(0, bad));
            refused("both " + bad, INDEX, () -> x.between(bad, bad));
        }
    }

    private void promise07_an_atom_and_itself() {
        RingSearch x = atoms(32);
        for (int a = 0; a < 32; a++) is("atom " + a, x.between(a, a), 0);
    }

    private void promise07_none_lead_there() {
        RingSearch x = row(32);
        x.cut(15);
        is("over the cut", x.between(0, 31), NONE);
        is("back", x.between(31, 0), NONE);
        is("at the cut", x.between(15, 16), NONE);
        is("this side", x.between(0, 15), 15);
    }

    private void promise07_the_farthest() {
        RingSearch x = row(32);
        is("a row", x.between(0, 31), 31);
        is("back", x.between(31, 0), 31);
        x.bond(31, 0, 3);
        is("a ring", x.between(0, 16), 16);
        is("a ring's other way", x.between(0, 17), 15);
        is("one bond", x.between(31, 0), 1);
    }

    // ==== 8 ring

    private void promise08_no_such_ring() {
        RingSearch x = used();
        for (int bad : outside(1)) refused("ring " + bad, INDEX, () -> x.ring(bad));
        RingSearch row = row(32);
        refused("no rings", INDEX, () -> row.ring(0));
    }

    private void promise08_three_bonds_at_least() {
        RingSearch x = circle(3);
        is("ring", x.ring(0), 7L);
        RingSearch two = row(2);
        is("two atoms", two.told(3), 0);
    }

    private void promise08_32_bonds_at_most() {
        is("ring", circle(32).ring(0), 0xFFFFFFFFL);
    }

    private void promise08_the_40th_bond() {
        RingSearch x = fullOfBonds();
        long all = 0;
        for (int i = 0; i < x.told(3); i++) all |= x.ring(i);
        is("rings", x.told(3), 9);
        is("the 40th bond is in one", all >> 39, 1L);
    }

    private void promise08_the_most_rings() {
        RingSearch x = mostRings();
        is("rings", x.told(3), 28);
        is("the last", Long.bitCount(x.ring(27)), 3);
        refused("ring 28", INDEX, () -> x.ring(28));
    }

    private void promise08_the_lesser_size_comes_first() {
        RingSearch x = Checks.molecule("a1aaaaa1.a2aa2");
        is("of three", x.ring(0), 0b111000000L);
        is("of six", x.ring(1), 0b111111L);
    }

    private void promise08_a_ring_of_two_bonds_each_behind_a_lesser_atom() {
        RingSearch x = made(4, new int[][] {{0, 3}, {1, 2}, {2, 3}, {3, 1}});
        is("ring", x.told(3) * 100 + x.ring(0), 114L);
        is("the lesser atom is in none", x.atomTold(0, 3), 0);
    }

    private void promise08_of_one_size_the_lesser_number_comes_first() {
        RingSearch x = made(5, new int[][] {{0, 2}, {0, 3}, {0, 4}, {1, 2}, {1, 3}, {1, 4}});
        is("two of three", x.told(3), 2);
        is("the first", x.ring(0), 0b011011L);
        is("the second", x.ring(1), 0b101101L);
    }

    private void promise08_a_sum_of_lesser_ones_is_none() {
        RingSearch x = made(5, new int[][] {{0, 1}, {1, 2}, {2, 0}, {2, 3}, {3, 4}, {4, 0}});
        is("three and four, not the five round both", x.told(3) + " " + x.ring(0) + " " + x.ring(1), "2 7 60");
        RingSearch k4 = made(4, allPairs(4));
        is("bonds", k4.told(1), 6);
        is("the first three of four", k4.ring(0) + " " + k4.ring(1) + " " + k4.ring(2), "11 21 38");
    }

    // ==== 9 ringAtom

    private void promise09_no_such_ring() {
        RingSearch x = used();
        for (int bad : outside(1)) refused("ring " + bad, INDEX, () -> x.ringAtom(bad, 0));
        RingSearch row = row(3);
        refused("no rings", INDEX, () -> row.ringAtom(0, 0));
    }

    private void promise09_no_such_atom() {
        for (int n : new int[] {3, 6, 32}) {
            RingSearch x = circle(n);
            for (int bad : outside(n)) refused(n + " atom " + bad, INDEX, () -> x.ringAtom(0, bad));
            is(n + " the last", x.ringAtom(0, n - 1), n - 1);
        }
    }

    private void promise09_from_0_on_the_least_atom() {
        RingSearch x = made(6, new int[][] {{5, 3}, {3, 4}, {4, 5}});
        is("atoms", x.ringAtom(0, 0) + " " + x.ringAtom(0, 1) + " " + x.ringAtom(0, 2), "3 4 5");
    }

    private void promise09_toward_the_lesser_neighbour() {
        RingSearch x = made(5, new int[][] {{0, 4}, {4, 1}, {1, 3}, {3, 2}, {2, 0}});
        StringBuilder got = new StringBuilder();
        for (int j = 0; j < 5; j++) got.append(x.ringAtom(0, j));
        is("atoms", got.toString(), "02314");
        RingSearch back = made(5, new int[][] {{2, 0}, {3, 2}, {1, 3}, {4, 1}, {0, 4}});
        got.setLength(0);
        for (int j = 0; j < 5; j++) got.append(back.ringAtom(0, j));
        is("whatever the bonds' numbers", got.toString(), "02314");
    }

    // ==== 10 cycles

    private void promise10_sizes_from_3_to_7() {
        for (int n = 3; n <= 8; n++) for (int size = 3; size <= 7; size++) is(size + " of " + n, circle(n).cycles(size), n == size ? 1 : 0);
    }

    private void promise10_another_size() {
        RingSearch x = circle(8);
        for (int bad : new int[] {2, 8, 1, 0, -1, -3, LEAST, MOST}) refused("size " + bad, ARGUMENT, () -> x.cycles(bad));
        RingSearch none = new RingSearch();
        refused("no molecule, no size", ARGUMENT, () -> none.cycles(2));
    }

    private void promise10_none_without_cycles() {
        for (int size = 3; size <= 7; size++) is("a row", row(32).cycles(size), 0);
        for (int size = 3; size <= 7; size++) is("no molecule", new RingSearch().cycles(size), 0);
    }

    private void promise10_all_are_counted_not_rings_alone() {
        RingSearch x = k7();
        int[] due = {35, 105, 252, 420, 360};
        for (int size = 3; size <= 7; size++) is("size " + size, x.cycles(size), due[size - 3]);
    }

    private void promise10_the_last_atoms() {
        RingSearch x = atoms(32);
        for (int[] b : K7) x.bond(25 + b[0], 25 + b[1], 0);
        int[] due = {35, 105, 252, 420, 360};
        for (int size = 3; size <= 7; size++) is("size " + size, x.cycles(size), due[size - 3]);
    }

    private void promise10_as_the_molecule_is_now() {
        RingSearch x = circle(4);
        is("four", x.cycles(4), 1);
        x.bond(0, 2, 0);
        is("three", x.cycles(3), 2);
        x.cut(4);
        is("three no more", x.cycles(3), 0);
        x.clear();
        is("none", x.cycles(4), 0);
    }

    // ==== 11 isSum

    private void promise11_none_are_one_too() {
        is("no molecule", new RingSearch().isSum(0), true);
        is("a row", row(32).isSum(0), true);
        is("40 bonds", fullOfBonds().isSum(0), true);
    }

    private void promise11_bonds_that_there_are_not() {
        RingSearch x = circle(3);
        is("the ring", x.isSum(7), true);
        for (int bit = 3; bit < 64; bit++) is("bit " + bit, x.isSum(7 | 1L << bit), false);
        for (int bit = 0; bit < 64; bit++) is("no molecule, bit " + bit, new RingSearch().isSum(1L << bit), false);
        is("all bits", x.isSum(-1L), false);
        is("the highest bit", x.isSum(Long.MIN_VALUE), false);
        RingSearch full = fullOfBonds();
        for (int bit = 40; bit < 64; bit++) is("40 bonds, bit " + bit, full.isSum(1L << bit), false);
    }

    private void promise11_all_40_bonds() {
        RingSearch x = atoms(20);
        for (int step = 1; step <= 2; step++) for (int i = 0; i < 20; i++) x.bond(i, (i + step) % 20, 0);
        is("bonds", x.told(1), 40);
        is("all", x.isSum((1L << 40) - 1), true);
        for (int bit = 0; bit < 40; bit++) is("all but " + bit, x.isSum((1L << 40) - 1 ^ 1L << bit), false);
        is("all bits", x.isSum(-1L), false);
    }

    private void promise11_a_part_of_a_cycle() {
        RingSearch x = circle(5);
        for (int bit = 0; bit < 5; bit++) is("without " + bit, x.isSum(31 ^ 1L << bit), false);
        for (int bit = 0; bit < 5; bit++) is("alone " + bit, x.isSum(1L << bit), false);
    }

    private void promise11_cycles_apart_and_cycles_at_one_atom() {
        RingSearch x = Checks.molecule("a1aa12aa2.a3aa3");
        is("at one atom", x.isSum(0b111111), true);
        is("apart", x.isSum(0b111000111), true);
        is("one and a half", x.isSum(0b110000111), false);
    }

    private void promise11_as_the_molecule_is_now() {
        RingSearch x = circle(3);
        x.cut(0);
        is("cut", x.isSum(7), false);
        is("the rest", x.isSum(3), false);
        x.bond(0, 1, 0);
        is("bonded again", x.isSum(7), true);
    }

    // ==== 12 feed

    private void promise12_from_1_to_8_bytes() {
        int has = 0;
        RingSearch x = new RingSearch();
        for (int n = 1; n <= 8; n++) { has += n; is("n " + n, x.feed(0, n), has); }
    }

    private void promise12_another_n() {
        RingSearch x = used();
        for (int bad : new int[] {0, 9, 10, -1, -8, 64, 256, LEAST, MOST}) refusedWhole("n " + bad, x, ARGUMENT, () -> x.feed(-1L, bad));
    }

    private void promise12_the_200th_is_the_last() {
        RingSearch x = new RingSearch();
        for (int i = 1; i <= 25; i++) is("feed " + i, x.feed(0, 8), 8 * i);
        for (int n = 1; n <= 8; n++) { int more = n; refusedWhole("n " + n, x, ROOM, () -> x.feed(0, more)); }
    }

    private void promise12_there_would_be_more_than_200() {
        RingSearch x = new RingSearch();
        for (int i = 1; i <= 24; i++) x.feed(0, 8);
        x.feed(0, 5);
        for (int n = 4; n <= 8; n++) { int more = n; refusedWhole("197 and " + n, x, ROOM, () -> x.feed(0, more)); }
        is("197 and 3", x.feed(0, 3), 200);
    }

    private void promise12_n_is_named_before_the_room() {
        RingSearch x = new RingSearch();
        for (int i = 1; i <= 25; i++) x.feed(0, 8);
        for (int bad : new int[] {0, 9, -1, LEAST, MOST}) refused("n " + bad, ARGUMENT, () -> x.feed(0, bad));
    }

    private void promise12_the_lowest_bytes_the_highest_first() {
        for (int n = 1; n <= 8; n++) {
            RingSearch x = new RingSearch();
            x.feed(0x6162636465666768L, n);
            is("n " + n, x.read(), n);
            for (int i = 0; i < n; i++) is("byte " + i + " of " + n, x.atomTold(i, 0), 8 - n + i);
        }
    }

    private void promise12_numbers_below_zero() {
        RingSearch x = new RingSearch();
        is("bytes of ones", x.feed(-1L, 8), 8);
        is("they stand nowhere", x.read() * 10 + x.fault(), -9);
        RingSearch y = new RingSearch();
        y.feed(0x80FFFFFFFFFFFF61L, 1);
        is("one byte of it", y.read(), 1);
        RingSearch z = new RingSearch();
        z.feed(0xE161616161616161L, 8);
        is("the highest byte is no letter", z.read(), -1);
    }

    private void promise12_behind_the_tape() {
        RingSearch x = new RingSearch();
        x.feed('a', 1);
        x.feed('b', 1);
        x.feed(0x6364L, 2);
        x.read();
        for (int i = 0; i < 4; i++) is("atom " + i, x.atomTold(i, 0), i);
    }

    private void promise12_room_again_when_the_tape_is_empty() {
        RingSearch x = new RingSearch();
        for (int i = 0; i < 4; i++) x.feed(0x6161616161616161L, 8);
        is("read", x.read(), 32);
        is("anew", x.feed(0, 8), 8);
        for (int i = 2; i <= 25; i++) x.feed(0, 8);
        is("200 again", x.told(9), 200);
    }

    // ==== 13 read

    private void promise13_an_empty_tape() {
        faulty(false, "", 1, 0);
        RingSearch x = Checks.molecule("ab");
        is("again", x.read(), -1);
        is("the molecule stays", x.told(0), 2);
    }

    private void promise13_the_tape_is_empty_then() {
        RingSearch x = new RingSearch();
        Checks.feed(x, "abc");
        x.read();
        is("bytes", x.told(9), 0);
        is("nothing of it is left", Checks.read(x, "p"), 1);
    }

    private void promise13_in_place_of_what_there_is() {
        RingSearch x = k7();
        is("atoms", Checks.read(x, "abcdefgh"), 8);
        is("bonds", x.told(1), 7);
        is("no rings", x.told(3), 0);
        for (int a = 1; a < 7; a++) is("bonds of " + a, x.atomTold(a, 1), 2);
        is("what is left of before", x.isSum(0b1000011L), false);
        Checks.read(x, "b");
        is("one", x.told(0) * 100 + x.told(1) * 10 + x.atomTold(0, 0), 101);
    }

    private void promise13_at_a_fault_nothing_changes() {
        for (String line : new String[] {"", "q", "ab-", "a1", "a11", "abc)", "a".repeat(33), "a(a(a(a(a(a(a(a(a(a"}) changesNothing(false, line);
    }

    private void promise13_the_tape_stays_at_a_fault() {
        RingSearch x = new RingSearch();
        is("a figure is open", Checks.read(x, "a1b"), -4);
        is("bytes", x.told(9), 3);
        is("again", x.read(), -4);
        is("mended behind it", Checks.read(x, "c1"), 3);
        is("its ring", x.told(3), 1);
    }

    private void promise13_nothing_of_a_faulty_line_is_left() {
        String[] lines = {"a(b", "a=", "a(b)#", "a(=", "a1b", "a=1b", "a."};
        String[] behind = {")c", "bc", "bc", "b)c", "c1", "c1", "bc"};
        int[] sorts = {0, 1, 0, 1, 0, 0, 0};
        for (int i = 0; i < lines.length; i++) {
            RingSearch x = new RingSearch();
            is("faulty " + lines[i], Checks.read(x, lines[i]), -1 - lines[i].length());
            String whole = lines[i] + behind[i];
            is("mended " + whole, Checks.read(x, behind[i]), Lines.atomsOf(whole));
            is("first bond of " + whole, x.bondTold(0, 0), sorts[i]);
            is("a line behind it", Checks.read(x, "abc"), 3);
            is("its first bond", x.bondTold(0, 0), 0);
        }
    }

    private void promise13_which_bytes_can_stand_where() {
        String letters = "abcdefghijklmnop", figures = "123456789", signs = "-=#:";
        standBehind(false, "", letters);
        standBehind(false, "a", letters + figures + signs + "(.");
        standBehind(false, "p", letters + figures + signs + "(.");
        standBehind(false, "a9", letters + figures + signs + "(.");
        standBehind(false, "ab", letters + figures + signs + "(.");
        for (int i = 0; i < 4; i++) standBehind(false, "a" + signs.charAt(i), letters + figures);
        standBehind(false, "a=1", letters + figures + signs + "(.");
        standBehind(false, "a(", letters + signs);
        standBehind(false, "a(=", letters);
        standBehind(false, "a(b", letters + figures + signs + "()");
        standBehind(false, "a(b2", letters + figures + signs + "()");
        standBehind(false, "a(b-", letters + figures);
        standBehind(false, "a(b)", letters + signs + "(.");
        standBehind(false, "a(b)=", letters);
        standBehind(false, "a(b)(", letters + signs);
        standBehind(false, "a(b(c)", letters + signs + "()");
        standBehind(false, "a(b(c)#", letters);
        standBehind(false, "a(b(c))", letters + signs + "(.");
        standBehind(false, "a.", letters);
        standBehind(false, "a.b", letters + figures + signs + "(.");
    }

    private void promise13_where_a_line_can_end() {
        for (String may : new String[] {"a", "a(b)", "a(b)c", "a(b)(c)", "a.b", "a1bc1", "a(b(c))", "a.b(c)"}) endsBehind(false, may, true);
        for (String not : new String[] {"", "a-", "a(", "a(b", "a(b-", "a(=", "a(b)=", "a(b(c)", "a.", "a=1b#", "a(b)("}) endsBehind(false, not, false);
    }

    private void promise13_labels_from_a_to_p() {
        RingSearch x = Checks.molecule("abcdefghijklmnop");
        for (int a = 0; a < 16; a++) is("label " + a, x.atomTold(a, 0), a);
        faulty(false, "q", 1, 0);
        faulty(false, "`", 1, 0);
    }

    private void promise13_figures_from_1_to_9() {
        for (int f = 1; f <= 9; f++) taken(false, "a" + f + "ba" + f, 3, 3);
        faulty(false, "a0ba0", 1, 1);
        faulty(false, "a10", 1, 2);
        taken(false, "a1a2a3a4a5a6a7a8a9aa1a2a3a4a5a6a7a8a9", 19, 27);
    }

    private void promise13_signs_are_sorts_0_to_3() {
        RingSearch x = Checks.molecule("aa-a=a#a:a");
        int[] due = {0, 0, 1, 2, 3};
        for (int k = 0; k < 5; k++) is("bond " + k, x.bondTold(k, 0), due[k]);
    }

    private void promise13_eight_can_be_open() {
        taken(false, Lines.branches(8), 9, 8);
        faulty(false, Lines.branches(9), 2, 17);
        faulty(false, "a(a(a(a(a(a(a(a(a(", 2, 17);
        String sevenClosed = "a(".repeat(8) + "a" + ")".repeat(7);
        taken(false, sevenClosed + "(a".repeat(7) + ")".repeat(8), 16, 15);
        faulty(false, sevenClosed + "(a".repeat(8) + ")".repeat(9), 2, 38);
        taken(false, "a(".repeat(8) + "a)(a" + ")".repeat(8) + "(a)a", 12, 11);
        faulty(false, "a(".repeat(8) + "a)(a(a", 2, 20);
        taken(false, Lines.branches(8) + "." + Lines.branches(8), 18, 16);
    }

    private void promise13_a_9th_where_none_can_stand_is_fault_1() {
        faulty(false, "a(a(a(a(a(a(a(a((", 1, 16);
        faulty(false, "a(a(a(a(a(a(a(a(a-(", 1, 18);
    }

    private void promise13_the_33rd_atom() {
        taken(false, "a".repeat(32), 32, 31);
        faulty(false, "a".repeat(33), 3, 32);
        faulty(false, "a".repeat(32) + "=p", 3, 33);
        faulty(false, "a".repeat(32) + "(b)", 3, 33);
        faulty(false, "a".repeat(32) + ".b", 3, 33);
        faulty(false, "a".repeat(32) + "q", 1, 32);
        faulty(false, "a".repeat(32) + ".q", 1, 33);
        taken(false, "a.".repeat(31) + "a", 32, 0);
        faulty(false, "a.".repeat(32) + "a", 3, 64);
    }

    private void promise13_the_41st_bond() {
        String full = Lines.FORTY_BONDS;
        int n = full.length(), atoms = Lines.atomsOf(full);
        taken(false, full, atoms, 40);
        taken(false, full + ".a", atoms + 1, 40);
        faulty(false, full + "a", 3, n);
        faulty(false, full + "=a", 3, n + 1);
        faulty(false, full + "(a)", 3, n + 1);
        faulty(false, full + ".aa", 3, n + 2);
        faulty(false, full + ".a1.a1", 3, n + 5);
        faulty(false, full + ".a1", 5, n + 3);
    }

    private void promise13_the_40th_bond_is_a_closure() {
        String bare = Lines.FORTY_BONDS.substring(0, Lines.FORTY_BONDS.length() - 2);
        taken(false, bare + ".a1.a1", Lines.atomsOf(bare) + 2, 39);
        taken(false, bare + ".a12.a1.a2", Lines.atomsOf(bare) + 3, 40);
        faulty(false, bare + ".a123.a1.a2.a3", 3, bare.length() + 13);
    }

    private void promise13_a_closure_of_an_atom_with_itself() {
        faulty(false, "a11", 4, 2);
        faulty(false, "a1=1", 4, 3);
        faulty(false, "b.a=77", 4, 5);
    }

    private void promise13_a_closure_of_two_that_have_a_bond() {
        faulty(false, "a1b1", 4, 3);
        faulty(false, "a1(b1)", 4, 4);
        faulty(false, "a12bc12", 4, 6);
        faulty(false, "a12b21", 4, 4);
        faulty(false, "a12.b12", 4, 6);
    }

    private void promise13_a_closure_of_two_sorts_told() {
        String signs = "-=#:";
        for (int i = 0; i < 4; i++)
            for (int j = 0; j < 4; j++) {
                String line = "a" + signs.charAt(i) + "1bc" + signs.charAt(j) + "1";
                if (i == j) taken(false, line, 3, 3); else faulty(false, line, 4, 6);
            }
    }

    private void promise13_a_closure_s_sort_told_once() {
        String signs = "-=#:";
        for (int i = 0; i < 4; i++) {
            is("first " + i, Checks.molecule("a" + signs.charAt(i) + "1bc1").bondTold(2, 0), i);
            is("second " + i, Checks.molecule("a1bc" + signs.charAt(i) + "1").bondTold(2, 0), i);
            is("both " + i, Checks.molecule("a" + signs.charAt(i) + "1bc" + signs.charAt(i) + "1").bondTold(2, 0), i);
        }
        is("at none", Checks.molecule("a1=b#c1").bondTold(2, 0), 0);
    }

    private void promise13_a_7th_bond_of_an_atom() {
        taken(false, "a(a)(a)(a)(a)(a)a", 7, 6);
        faulty(false, "a(a)(a)(a)(a)(a)(a)a", 4, 19);
        faulty(false, "a(a)(a)(a)(a)(a)(a)(=a)", 4, 21);
        taken(false, "aa(a)(a)(a)(a)a", 7, 6);
        faulty(false, "aa(a)(a)(a)(a)(a)a", 4, 17);
        taken(false, "a1(a)(a)(a)(a)aa1", 7, 7);
        faulty(false, "a1(a)(a)(a)(a)(a)aa1", 4, 19);
        faulty(false, "a1234567.b1.b2.b3.b4.b5.b6.b7", 4, 28);
        faulty(false, "a1.a2.a3.a4.a5.a6.a7.a1234567", 4, 28);
        taken(false, "a1.a2.a3.a4.a5.a6.a123456", 7, 6);
    }

    private void promise13_figures_open_at_the_end() {
        for (int f = 1; f <= 9; f++) faulty(false, "a" + f, 5, 2);
        faulty(false, "a1bc12", 5, 6);
        faulty(false, "a1.b", 5, 4);
        faulty(false, "a(b1)c", 5, 6);
        faulty(false, "a=1", 5, 3);
        faulty(false, "a123456789", 5, 10);
    }

    private void promise13_a_figure_may_be_open_beyond_a_point() {
        RingSearch x = Checks.molecule("a=1b.c1");
        is("parts", x.told(2), 1);
        is("its sort", x.bondTold(1, 0), 1);
        is("its atoms", x.bondTold(1, 1) * 10 + x.bondTold(1, 2), 2);
    }

    private void promise13_a_figure_opens_again_behind_its_closing() {
        taken(false, "a1bc1d1ef1", 6, 7);
        taken(false, "a1bc11de1", 5, 6);
        faulty(false, "a1bc1d1", 5, 7);
    }

    private void promise13_of_one_byte_the_lesser_code() {
        faulty(false, "a1-", 1, 3);
        faulty(false, "a(b1", 1, 4);
        faulty(false, "a1.", 1, 3);
        faulty(false, "a".repeat(26) + "(a)(a)(a)(a)(a)(a)", 4, 42);
        faulty(false, "a".repeat(27) + "(a)(a)(a)(a)(a)(a)", 3, 43);
        String full = Lines.FORTY_BONDS;
        faulty(false, full + ".a11", 3, full.length() + 3);
        String fullAtom = Lines.FORTY_BONDS.substring(0, 50) + ".a7(a)(a)(a)(a)(a)(a)";
        taken(false, fullAtom.replace("7", ""), 27, 40);
        faulty(false, fullAtom + "a", 3, fullAtom.length());
        faulty(false, fullAtom + ".a7", 3, fullAtom.length() + 2);
    }

    private void promise13_the_first_fault_from_the_left() {
        faulty(false, "a11q", 4, 2);
        faulty(false, "aq11", 1, 1);
        faulty(false, "a1a1)", 4, 3);
        faulty(false, Lines.branches(9) + "q", 2, 17);
        faulty(false, "a".repeat(33) + "q", 3, 32);
        faulty(false, "a".repeat(31) + "q" + "aa", 1, 31);
    }

    private void promise13_200_bytes() {
        RingSearch x = new RingSearch();
        Checks.feed(x, "a".repeat(200));
        is("200 letters", x.read() * 10 + x.fault(), -327);
        String longest = Lines.LONGEST;
        is("a line of 161", longest.length(), 161);
        taken(false, longest, 32, 40);
        RingSearch y = new RingSearch();
        Checks.feed(y, longest + "q".repeat(200 - longest.length()));
        is("and bytes behind it", y.read(), -1 - longest.length());
    }

    private void promise13_atoms_and_bonds_as_they_come() {
        RingSearch x = Checks.molecule("a1(b=2)c(d2)e1");
        int[][] due = {{0, 1}, {0, 2}, {2, 3}, {1, 3}, {2, 4}, {0, 4}};
        for (int k = 0; k < due.length; k++) is("bond " + k, x.bondTold(k, 1) + " " + x.bondTold(k, 2), due[k][0] + " " + due[k][1]);
        is("its sort", x.bondTold(3, 0), 1);
    }

    // ==== 14 pattern

    private void promise14_an_empty_tape() {
        faulty(true, "", 1, 0);
        RingSearch x = new RingSearch();
        Checks.pattern(x, "ab");
        is("again", x.pattern(), -1);
        is("the pattern stays", x.told(6), 2);
    }

    private void promise14_the_tape_is_empty_then() {
        RingSearch x = new RingSearch();
        Checks.pattern(x, "[ab]?");
        is("bytes", x.told(9), 0);
    }

    private void promise14_in_place_of_that_there_is() {
        RingSearch x = circle(3);
        Checks.pattern(x, "[b!=6]*/b1-@bb#1");
        Checks.pattern(x, "aaa");
        is("atoms and bonds", x.told(6) * 10 + x.told(7), 32);
        is("nothing of it is left", x.search(), 6);
    }

    private void promise14_at_a_fault_nothing_changes() {
        for (String line : new String[] {"", "q", "a.b", "[]", "a-", "a1", "a11", "a".repeat(11), "[ab!=3"}) changesNothing(true, line);
    }

    private void promise14_a_molecule_and_a_pattern_are_apart() {
        RingSearch x = Checks.molecule("abc");
        Checks.pattern(x, "de");
        is("molecule", x.told(0) * 10 + x.told(1), 32);
        Checks.read(x, "p");
        is("pattern", x.told(6) * 10 + x.told(7), 21);
    }

    private void promise14_which_bytes_can_stand_where() {
        String atoms = "abcdefghijklmnop?[", figures = "123456789", signs = "-=#:*", letters = "abcdefghijklmnop";
        standBehind(true, "", atoms);
        for (String atom : new String[] {"a", "p", "?", "[a]", "[?~=6]", "a9", "a-@9"}) standBehind(true, atom, atoms + figures + signs + "(");
        for (int i = 0; i < 5; i++) standBehind(true, "a" + signs.charAt(i), atoms + figures + "@/");
        standBehind(true, "a-@", atoms + figures);
        standBehind(true, "a*/", atoms + figures);
        standBehind(true, "a(", atoms + signs);
        standBehind(true, "a(=", atoms + "@/");
        standBehind(true, "a(=@", atoms);
        standBehind(true, "a(=/", atoms);
        standBehind(true, "a(b", atoms + figures + signs + "()");
        standBehind(true, "a([b]", atoms + figures + signs + "()");
        standBehind(true, "a(b)", atoms + signs + "(");
        standBehind(true, "a(b)*", atoms + "@/");
        standBehind(true, "a(b)*@", atoms);
        standBehind(true, "[", letters + "?");
        standBehind(true, "[a", letters + "!~=]");
        standBehind(true, "[pa", letters + "!~=]");
        standBehind(true, "[?", "!~=]");
        standBehind(true, "[a!", "=]");
        standBehind(true, "[?~", "=]");
        standBehind(true, "[a=", "123456");
        standBehind(true, "[?!=", "123456");
        standBehind(true, "[a=1", "]");
        standBehind(true, "[?~=6", "]");
    }

    private void promise14_where_a_line_can_end() {
        for (String may : new String[] {"a", "?", "[a]", "[?!=6]", "a(b)", "a*@b", "a1b?1"}) endsBehind(true, may, true);
        for (String not : new String[] {"", "[", "[a", "[?", "[a!", "[a=", "[a=1", "a*", "a*@", "a(", "a(b", "a(b)-", "a(b)-/", "a([b]"}) endsBehind(true, not, false);
    }

    private void promise14_the_11th_atom() {
        taken(true, "a".repeat(10), 10, 9);
        taken(true, "[a]".repeat(10), 10, 9);
        faulty(true, "a".repeat(11), 3, 10);
        faulty(true, "?".repeat(11), 3, 10);
        faulty(true, "a".repeat(10) + "*@?", 3, 12);
        faulty(true, "a".repeat(10) + "(b)", 3, 11);
        faulty(true, "a".repeat(10) + "[b]", 3, 10);
    }

    private void promise14_the_15th_bond() {
        String full = Lines.FOURTEEN_BONDS;
        taken(true, full, 8, 14);
        faulty(true, full + "a", 3, full.length());
        faulty(true, full + "-@?", 3, full.length() + 2);
        faulty(true, Lines.FIFTEEN_BONDS, 3, Lines.FIFTEEN_BONDS.length() - 1);
    }

    private void promise14_a_7th_bond_of_an_atom() {
        taken(true, "a(a)(a)(a)(a)(a)a", 7, 6);
        faulty(true, "a(a)(a)(a)(a)(a)(a)a", 4, 19);
        faulty(true, "a(a)(a)(a)(a)(a)(a)[a]", 4, 19);
        faulty(true, "?1(a)(a)(a)(a)(a)aa1", 4, 19);
    }

    private void promise14_eight_can_be_open() {
        taken(true, Lines.branches(8), 9, 8);
        faulty(true, Lines.branches(9), 2, 17);
    }

    private void promise14_no_point() {
        faulty(true, "a.a", 1, 1);
        faulty(true, "a1.a1", 1, 2);
    }

    private void promise14_a_set_is_not_none() {
        faulty(true, "[]", 1, 1);
        faulty(true, "[!]", 1, 1);
        faulty(true, "[~]", 1, 1);
        faulty(true, "[=1]", 1, 1);
        taken(true, "[a]", 1, 0);
        taken(true, "[abcdefghijklmnop]", 1, 0);
        taken(true, "[ppp]", 1, 0);
    }

    private void promise14_bonds_wanted_from_1_to_6() {
        for (int n = 1; n <= 6; n++) taken(true, "[a=" + n + "]", 1, 0);
        faulty(true, "[a=0]", 1, 3);
        faulty(true, "[a=7]", 1, 3);
        faulty(true, "[a=10]", 1, 4);
    }

    private void promise14_a_ring_mark_stands_behind_a_sign() {
        for (String mark : new String[] {"@", "/"}) {
            for (String sign : new String[] {"-", "=", "#", ":", "*"}) taken(true, "a" + sign + mark + "b", 2, 1);
            faulty(true, "a" + mark + "b", 1, 1);
            faulty(true, "a" + mark + "1bc1", 1, 1);
            faulty(true, "a(" + mark + "b)", 1, 2);
            faulty(true, "a-" + mark + mark + "b", 1, 3);
        }
    }

    private void promise14_a_closure_s_sets_are_alike() {
        String[] signs = {"-", "=", "#", ":", "*", "-@", "-/", "*@", "*/"};
        for (String first : signs) {
            taken(true, "a" + first + "1bc1", 3, 3);
            taken(true, "a1bc" + first + "1", 3, 3);
            for (String second : signs) {
                String line = "a" + first + "1bc" + second + "1";
                if (first.equals(second)) taken(true, line, 3, 3); else faulty(true, line, 4, line.length() - 1);
            }
        }
    }

    private void promise14_closures_of_an_atom_with_itself_and_of_a_bonded_one() {
        faulty(true, "?11", 4, 2);
        faulty(true, "[a]*1*1", 4, 6);
        faulty(true, "?1?1", 4, 3);
        faulty(true, "a1", 5, 2);
        faulty(true, "a1[", 1, 3);
    }

    // ==== 15 fault

    private void promise15_0_before() {
        RingSearch x = new RingSearch();
        is("new", x.fault(), 0);
        Checks.feed(x, "q");
        is("fed", x.fault(), 0);
    }

    private void promise15_each_code_of_read_and_pattern() {
        String[] lines = {"", "q", "a(a(a(a(a(a(a(a(a(", "a".repeat(33), "a11", "a1"};
        int[] codes = {1, 1, 2, 3, 4, 5};
        for (int i = 0; i < lines.length; i++) faulty(false, lines[i], codes[i], lines[i].equals("a(a(a(a(a(a(a(a(a(") ? 17 : i == 3 ? 32 : i < 2 ? 0 : 2);
        for (int i = 0; i < lines.length; i++) faulty(true, lines[i], codes[i], lines[i].equals("a(a(a(a(a(a(a(a(a(") ? 17 : i == 3 ? 10 : i < 2 ? 0 : 2);
    }

    private void promise15_of_the_latest_of_both() {
        RingSearch x = new RingSearch();
        Checks.read(x, "a1");
        is("read", x.fault(), 5);
        is("pattern", Checks.pattern(x, "1"), -3);
        is("pattern's code", x.fault(), 4);
        RingSearch y = new RingSearch();
        y.read();
        Checks.pattern(y, "?");
        is("none", y.fault(), 0);
        y.pattern();
        is("one", y.fault(), 1);
        Checks.read(y, "a");
        is("none again", y.fault(), 0);
    }

    private void promise15_no_other_call_changes_it() {
        RingSearch x = new RingSearch();
        Checks.read(x, "a1");
        x.atom(0);
        x.atom(0);
        x.bond(0, 1, 0);
        x.cut(0);
        x.feed('1', 1);
        x.write();
        x.search();
        x.sets();
        x.clear();
        Checks.answer(() -> x.feed(0, 9));
        is("it stays", x.fault(), 5);
    }

    // ==== 16 write

    private void promise16_0_without_atoms() {
        RingSearch x = new RingSearch();
        is("new", x.write() * 100 + x.told(10), 0);
        x.atom(3);
        is("one", Checks.written(x), "d");
        x.clear();
        is("cleared", x.write() * 100 + x.told(10), 0);
        refused("no byte", INDEX, () -> x.written(0));
    }

    private void promise16_nine_figures_open_at_once() {
        RingSearch x = closures(9);
        is("line", Checks.written(x), "a1a2a3a4a5a6a7a8a9aa1a2a3a4a5a6a7a8a9");
    }

    private void promise16_ten_are_none() {
        RingSearch x = closures(10);
        is("write", x.write(), NONE);
        is("bytes", x.told(10), 0);
        refused("no byte", INDEX, () -> x.written(0));
    }

    /** A row of twice as many atoms and one, and from each of the first ones a closure to one behind the middle. */
    private static RingSearch closures(int n) {
        RingSearch x = row(2 * n + 1);
        for (int i = 0; i < n; i++) x.bond(i, i + n + 1, 0);
        return x;
    }

    private void promise16_nothing_is_written_then() {
        RingSearch x = closures(10);
        int last = x.told(1) - 1;
        x.cut(last);
        is("nine", x.write() > 0, true);
        x.bond(9, 20, 0);
        is("ten", x.write(), NONE);
        is("what was written goes", x.told(10), 0);
        refused("no byte", INDEX, () -> x.written(0));
        x.cut(last);
        is("nine again", Checks.written(x), "a1a2a3a4a5a6a7a8a9aaa1a2a3a4a5a6a7a8a9a");
    }

    private void promise16_a_figure_is_free_behind_its_second_place() {
        is("closed before one opens", Checks.written(nineAndOne(true)), "a1a2a3a4a5a6a7a8a9aa11a2a3a4a5a6a7a8a9a1");
        is("one opens before", nineAndOne(false).write(), NONE);
    }

    /** Nine closures open at atom 10, where one of them ends and a tenth begins, by the numbers of their bonds. */
    private static RingSearch nineAndOne(boolean endFirst) {
        RingSearch x = row(20);
        if (!endFirst) x.bond(10, 19, 0);
        for (int i = 0; i < 9; i++) x.bond(i, i + 10, 0);
        if (endFirst) x.bond(10, 19, 0);
        return x;
    }

    private void promise16_more_than_nine_one_after_another() {
        RingSearch x = Checks.molecule("a1aa1a1aa1a1aa1a1aa1a1aa1a1aa1a1aa1a1aa1a1aa1a1aa1");
        is("rings", x.told(3), 10);
        is("line", Checks.written(x), "a1aa1a1aa1a1aa1a1aa1a1aa1a1aa1a1aa1a1aa1a1aa1a1aa1");
    }

    private void promise16_the_least_figure_that_is_free() {
        RingSearch x = Checks.molecule("a1b2cd1e1f2gh1");
        is("line", Checks.written(x), "a1b2cd1e1f2gh1");
        is("others", Checks.written(Checks.molecule("a7b8cd7e9f8gh9")), "a1b2cd1e1f2gh1");
    }

    private void promise16_figures_open_beyond_a_part_are_none() {
        RingSearch x = Checks.molecule("a1aa1.a2aa2");
        is("line", Checks.written(x), "a1aa1.a1aa1");
    }

    private void promise16_32_parts() {
        is("line", Checks.written(atoms(32)), "a" + ".a".repeat(31));
    }

    private void promise16_a_row_of_32() {
        is("line", Checks.written(row(32)), "a".repeat(32));
        RingSearch back = atoms(32);
        for (int i = 31; i > 0; i--) back.bond(i, i - 1, 3);
        is("by its least atom", Checks.written(back), "a" + ":a".repeat(31));
    }

    private void promise16_branches_within_branches() {
        RingSearch x = atoms(32);
        for (int i = 0; i + 2 < 32; i += 2) { x.bond(i, i + 2, 1); x.bond(i, i + 1, 0); }
        is("15 of them", Checks.written(x), "a(=".repeat(15) + "a" + ")a".repeat(15) + ".a");
    }

    private void promise16_parts_by_their_least_atoms() {
        RingSearch x = new RingSearch();
        for (int i = 0; i < 6; i++) x.atom(i);
        x.bond(5, 1, 0);
        x.bond(4, 0, 1);
        is("line", Checks.written(x), "a=e.bf.c.d");
    }

    private void promise16_all_but_the_last_in_brackets() {
        is("one", Checks.written(Checks.molecule("a(b)")), "ab");
        is("six", Checks.written(Checks.molecule("a(b)(=c)(#d)(:e)(f)(g)")), "a(b)(=c)(#d)(:e)(f)g");
    }

    private void promise16_a_sign_of_sort_0_is_not_written() {
        is("bonds and closures", Checks.written(Checks.molecule("a-b-1c-d-1")), "ab1cd1");
        is("a closure's sign comes once", Checks.written(Checks.molecule("a=b1c=d#1")), "a=b#1c=d1");
    }

    private void promise16_a_bond_that_leads_on_is_found_in_depth() {
        RingSearch x = made(4, new int[][] {{0, 1}, {0, 2}, {0, 3}, {1, 3}});
        is("atom 3 is met from 1", Checks.written(x), "a1(aa1)a");
    }

    private void promise16_all_atoms_and_bonds_with_signs_and_brackets() {
        RingSearch x = Checks.molecule(Lines.LONGEST);
        String due = Oracle.write(Oracle.parse(Lines.LONGEST, false).net);
        is("line", Checks.written(x), due);
        is("bytes", x.told(10), due.length());
        is("it is read as the same", Checks.molecule(due).told(1), 40);
    }

    private void promise16_the_molecule_stays() {
        RingSearch x = used();
        String before = state(x);
        x.write();
        is("all", state(x), before);
    }

    // ==== 17 written

    private void promise17_no_such_byte() {
        RingSearch x = used();
        int n = x.told(10);
        is("bytes", n, 9);
        for (int bad : outside(n)) refused("byte " + bad, INDEX, () -> x.written(bad));
        is("the first", x.written(0), (int) 'a');
        is("the last", x.written(n - 1), (int) 'p');
    }

    private void promise17_before_anything_is_written() {
        RingSearch x = Checks.molecule("abc");
        for (int bad : outside(0)) refused("byte " + bad, INDEX, () -> x.written(bad));
    }

    private void promise17_what_was_written_latest() {
        RingSearch x = Checks.molecule("abc");
        x.write();
        Checks.read(x, "d");
        is("it stays", x.written(2), (int) 'c');
        x.write();
        is("anew", x.written(0), (int) 'd');
        refused("it is shorter", INDEX, () -> x.written(1));
    }

    // ==== 18 search

    private void promise18_none_without_a_pattern() {
        RingSearch x = Checks.molecule("abc");
        is("none yet", x.search(), NONE);
        Checks.pattern(x, "q");
        is("a fault is none", x.search(), NONE);
        is("nothing is kept", x.told(8) + x.sets(), 0);
    }

    private void promise18_0_without_a_molecule() {
        RingSearch x = new RingSearch();
        Checks.pattern(x, "?");
        is("no atoms", x.search(), 0);
        is("none kept", x.told(8), 0);
    }

    private void promise18_a_pattern_of_one_atom() {
        RingSearch x = atoms(32);
        Checks.pattern(x, "?");
        is("32 places", x.search(), 32);
        is("the last", x.place(31, 0), 31);
    }

    private void promise18_a_pattern_greater_than_the_molecule() {
        RingSearch x = row(9);
        Checks.pattern(x, "?".repeat(10));
        is("nine", x.search(), 0);
        x.atom(0);
        x.bond(9, 8, 0);
        is("ten", x.search(), 2);
    }

    private void promise18_labels_0_and_15() {
        RingSearch x = Checks.molecule("apb");
        finds(x, "a", 1);
        finds(x, "p", 1);
        finds(x, "[ap]", 2);
        finds(x, "[abcdefghijklmnop]", 3);
        finds(x, "[cdefghijklmno]", 0);
        finds(x, "?", 3);
    }

    private void finds(RingSearch x, String pattern, int due) {
        is(pattern + " is one", Checks.pattern(x, pattern) > 0, true);
        is(pattern, x.search(), due);
    }

    private void promise18_just_as_many_bonds() {
        RingSearch x = Checks.molecule("a(a)(a)(a)(a)(a)a.a");
        int[] due = {6, 0, 0, 0, 0, 1};
        for (int n = 1; n <= 6; n++) finds(x, "[?=" + n + "]", due[n - 1]);
        finds(x, "?", 8);
        finds(x, "[?=6][?=1]", 6);
    }

    private void promise18_to_lie_in_a_ring_or_in_none() {
        RingSearch x = Checks.molecule("a1aa1aa2aa2.a");
        finds(x, "[?!]", 6);
        finds(x, "[?~]", 2);
        finds(x, "?*@?", 12);
        finds(x, "?*/?", 4);
        finds(x, "[?!]*/[?~]", 2);
        finds(x, "[?!]*@[?~]", 0);
        finds(x, "[?~=2]", 1);
    }

    private void promise18_a_bridge_between_atoms_in_rings_lies_in_none() {
        RingSearch x = Checks.molecule("a1aa1a2aa2");
        finds(x, "[?!]*/[?!]", 2);
        finds(x, "[?!=3]*@[?!=3]", 0);
    }

    private void promise18_sets_of_sorts() {
        RingSearch x = Checks.molecule("a-a=a#a:a");
        for (String sign : new String[] {"-", "=", "#", ":"}) finds(x, "?" + sign + "?", 2);
        finds(x, "?*?", 8);
        finds(x, "??", 8);
        finds(x, "?-?=?", 1);
        finds(x, "?-??", 1);
    }

    private void promise18_a_closure_without_a_sign_has_all_sorts() {
        RingSearch x = Checks.molecule("a=1a=a1");
        finds(x, "?1??1", 6);
        finds(x, "?-1??1", 2);
        finds(x, "?1??=1", 4);
        finds(x, "?#1??1", 0);
    }

    private void promise18_atoms_are_all_different() {
        RingSearch x = row(2);
        finds(x, "???", 0);
        finds(x, "?(?)?", 0);
        finds(x, "??", 2);
    }

    private void promise18_more_bonds_in_the_molecule_do_no_harm() {
        finds(k7(), "???", 210);
        finds(k7(), "???????", 5040);
        finds(k7(), "????????", 0);
    }

    private void promise18_as_they_are_now() {
        RingSearch x = new RingSearch();
        Checks.pattern(x, "[?!]");
        is("none", x.search(), 0);
        for (int i = 0; i < 3; i++) x.atom(0);
        x.bond(0, 1, 0);
        x.bond(1, 2, 0);
        is("a row", x.search(), 0);
        x.bond(2, 0, 0);
        is("a ring", x.search(), 3);
        x.cut(1);
        is("cut", x.search(), 0);
        Checks.read(x, "a1aaa1");
        is("read", x.search(), 4);
        Checks.pattern(x, "[?~]");
        is("another pattern", x.search(), 0);
        x.clear();
        is("cleared", x.search(), 0);
    }

    private void promise18_more_than_are_kept() {
        RingSearch x = twoThousandAnd(0, 4);
        is("all are told", x.search(), 2004);
        is("2000 are kept", x.told(8), 2000);
        finds(k7(), "?????", 2520);
    }

    /** A cube with a tail of two atoms: 10 atoms, 14 bonds, and a cube can be turned in six ways about a corner. */
    private void promise18_a_pattern_of_10_atoms_and_14_bonds() {
        String cube = "a12a3a4a1a5a4a3a25a";
        finds(Checks.molecule(cube + "a"), cube + "a", 6);
        finds(Checks.molecule(cube + "=a"), cube + "=a", 6);
        finds(Checks.molecule(cube + "a"), cube + "=a", 0);
        finds(Checks.molecule(cube + "a"), cube + "*/a", 6);
        finds(Checks.molecule(cube + "a"), cube + "*@a", 0);
        finds(Checks.molecule(cube + "a"), cube + "[a=1]", 6);
        finds(Checks.molecule(cube + "ab"), cube + "[a=1]", 0);
        RingSearch x = Checks.molecule(cube + "a");
        Checks.pattern(x, cube + "a");
        x.search();
        is("bonds", x.told(7), 14);
        for (int i = 0; i < 6; i++) is("the tail's end", x.place(i, 9), 9);
        is("alike", x.sets(), 1);
    }

    /**
     * A centre with three hubs of five leaves each: 20 * 20 * 5 places of the pattern. Before or behind it a
     * small one with just the pattern's atoms, which has 4 places more.
     */
    private static RingSearch twoThousandAnd(int before, int behind) {
        String big = "c(d(b)(b)(b)(b)b)(e(b)(b)(b)(b)b)f(b)(b)(b)(b)b";
        String small = "c(d(b)b)(e(b)b)fb";
        RingSearch x = Checks.molecule((before > 0 ? small + "." : "") + big + (behind > 0 ? "." + small : ""));
        Checks.pattern(x, small);
        return x;
    }

    // ==== 19 place

    private void promise19_no_such_place() {
        RingSearch x = used();
        int n = x.told(8);
        is("kept", n, 7);
        for (int bad : outside(n)) refused("place " + bad, INDEX, () -> x.place(bad, 0));
        RingSearch none = Checks.molecule("abc");
        refused("before a search", INDEX, () -> none.place(0, 0));
        Checks.pattern(none, "p");
        refused("before a search of it", INDEX, () -> none.place(0, 0));
        none.search();
        refused("none found", INDEX, () -> none.place(0, 0));
    }

    private void promise19_no_such_atom_of_the_pattern() {
        RingSearch x = used();
        for (int bad : outside(2)) refused("atom " + bad, INDEX, () -> x.place(0, bad));
        RingSearch ten = row(10);
        Checks.pattern(ten, "?".repeat(10));
        ten.search();
        is("atom 9", ten.place(1, 9), 0);
        refused("atom 10", INDEX, () -> ten.place(1, 10));
        for (int bad : NO_NUMBER) refused("both " + bad, INDEX, () -> ten.place(bad, bad));
    }

    private void promise19_the_2000th_is_the_last() {
        RingSearch x = twoThousandAnd(0, 0);
        is("found", x.search(), 2000);
        is("kept", x.told(8), 2000);
        lastOf(x, 0, "0 1 6 5 7 12 11 13 18");
        refused("place 2000", INDEX, () -> x.place(2000, 0));
        refused("place 2001", INDEX, () -> x.place(2001, 0));
    }

    private void promise19_what_comes_behind_the_2000th_is_not_kept() {
        RingSearch x = twoThousandAnd(0, 4);
        is("found", x.search(), 2004);
        lastOf(x, 0, "0 1 6 5 7 12 11 13 18");
        refused("place 2000", INDEX, () -> x.place(2000, 0));
        RingSearch y = twoThousandAnd(4, 0);
        is("found", y.search(), 2004);
        lastOf(y, 9, "0 1 6 5 7 12 11 13 14");
        refused("place 2003", INDEX, () -> y.place(2003, 0));
    }

    private void lastOf(RingSearch x, int shift, String due) {
        List<String> want = new ArrayList<>(), got = new ArrayList<>();
        for (String a : due.split(" ")) want.add("" + (Integer.parseInt(a) + shift));
        for (int q = 0; q < want.size(); q++) got.add("" + x.place(1999, q));
        is("the last place", got, want);
    }

    private void promise19_in_order_of_their_atoms() {
        RingSearch x = circle(3);
        Checks.pattern(x, "???");
        x.search();
        StringBuilder got = new StringBuilder();
        for (int i = 0; i < 6; i++) got.append(x.place(i, 0)).append(x.place(i, 1)).append(x.place(i, 2)).append(' ');
        is("places", got.toString(), "012 021 102 120 201 210 ");
    }

    private void promise19_it_stays_when_the_molecule_changes() {
        RingSearch x = row(2);
        Checks.pattern(x, "??");
        x.search();
        x.cut(0);
        is("cut", x.place(1, 0) * 10 + x.place(1, 1), 10);
        x.clear();
        is("cleared", x.place(1, 0) * 10 + x.place(1, 1), 10);
        Checks.read(x, "abc");
        is("read", x.told(8) * 100 + x.place(0, 0) * 10 + x.place(0, 1), 201);
        x.search();
        is("found anew", x.told(8), 4);
    }

    private void promise19_the_latest_search() {
        RingSearch x = row(3);
        Checks.pattern(x, "???");
        x.search();
        Checks.pattern(x, "?");
        is("a pattern alone changes nothing", x.place(1, 2), 0);
        x.search();
        refused("one atom", INDEX, () -> x.place(1, 1));
        is("the third", x.place(2, 0), 2);
    }

    private void promise19_the_32nd_atom() {
        RingSearch x = row(32);
        Checks.pattern(x, "?".repeat(10));
        is("found", x.search(), 46);
        is("the last place", x.place(45, 0) * 100 + x.place(45, 9), 3122);
        is("the one before it ends there", x.place(44, 0) * 100 + x.place(44, 9), 3021);
    }

    // ==== 20 sets

    private void promise20_0_of_none() {
        RingSearch x = Checks.molecule("abc");
        is("before", x.sets(), 0);
        Checks.pattern(x, "p");
        is("no search yet", x.sets(), 0);
        x.search();
        is("none found", x.sets(), 0);
    }

    private void promise20_none_alike() {
        RingSearch x = atoms(32);
        Checks.pattern(x, "?");
        x.search();
        is("32", x.sets(), 32);
    }

    private void promise20_all_alike() {
        RingSearch x = k7();
        Checks.pattern(x, "???????");
        is("found", x.search(), 5040);
        is("one", x.sets(), 1);
    }

    private void promise20_one_place() {
        RingSearch x = Checks.molecule("ab");
        Checks.pattern(x, "b");
        is("found", x.search(), 1);
        is("one", x.sets(), 1);
    }

    private void promise20_each_search_is_counted_anew() {
        RingSearch x = circle(5);
        Checks.pattern(x, "??");
        for (int i = 0; i < 3; i++) is("found", x.search() * 100 + x.sets(), 1005);
        x.cut(0);
        x.search();
        is("one bond less", x.sets(), 4);
    }

    private void promise20_of_those_kept_alone() {
        RingSearch x = twoThousandAnd(0, 4);
        x.search();
        is("the last one's set is not kept", x.sets(), 500);
        RingSearch y = twoThousandAnd(4, 0);
        y.search();
        is("all of them", y.sets(), 501);
        RingSearch z = k7();
        Checks.pattern(z, "?????");
        is("found", z.search(), 2520);
        is("sets of the first 2000", z.sets(), 21);
    }

    private void promise20_the_same_atoms_in_another_order() {
        RingSearch x = row(3);
        Checks.pattern(x, "???");
        is("found", x.search(), 2);
        is("one", x.sets(), 1);
        is("again", x.sets(), 1);
    }

    private void promise20_it_stays_when_the_molecule_changes() {
        RingSearch x = row(3);
        Checks.pattern(x, "??");
        x.search();
        x.clear();
        is("cleared", x.sets(), 2);
        Checks.pattern(x, "?");
        is("another pattern", x.sets(), 2);
        x.search();
        is("found anew", x.sets(), 0);
    }

    // ==== 21 told

    private void promise21_another_what() {
        RingSearch x = used();
        for (int bad : new int[] {-1, 11, 12, LEAST, MOST}) refusedWhole("what " + bad, x, ARGUMENT, () -> x.told(bad));
    }

    private void promise21_the_most_of_each() {
        is("atoms", atoms(32).told(0), 32);
        is("bonds", fullOfBonds().told(1), 40);
        is("parts", atoms(32).told(2), 32);
        is("rings", mostRings().told(3), 28);
        is("bridges", row(32).told(4), 31);
        is("systems", Checks.molecule("a1a" + "a11a".repeat(12) + "a1").told(5), 13);
        RingSearch x = new RingSearch();
        Checks.pattern(x, "a".repeat(10));
        is("pattern's atoms", x.told(6), 10);
        Checks.pattern(x, Lines.FOURTEEN_BONDS);
        is("pattern's bonds", x.told(7), 14);
        RingSearch kept = k7();
        Checks.pattern(kept, "?????");
        kept.search();
        is("kept", kept.told(8), 2000);
        for (int i = 0; i < 25; i++) x.feed(0, 8);
        is("tape", x.told(9), 200);
        RingSearch apart = atoms(32);
        apart.write();
        is("written", apart.told(10), 63);
    }

    private void promise21_bridges_and_systems_as_the_molecule_is_now() {
        RingSearch x = circle(4);
        is("a ring", x.told(2) + " " + x.told(3) + " " + x.told(4) + " " + x.told(5), "1 1 0 1");
        x.cut(0);
        is("a row", x.told(2) + " " + x.told(3) + " " + x.told(4) + " " + x.told(5), "1 0 3 0");
        x.cut(1);
        is("two rows", x.told(2) + " " + x.told(3) + " " + x.told(4) + " " + x.told(5), "2 0 2 0");
        x.atom(0);
        is("an atom more", x.told(2), 3);
        x.bond(0, 4, 0);
        is("a bond more", x.told(2) + " " + x.told(4), "2 3");
    }

    // ==== 22 clear

    private void promise22_of_a_new_object() {
        RingSearch x = new RingSearch();
        String before = state(x);
        x.clear();
        is("nothing changes", state(x), before);
    }

    private void promise22_no_atoms_then() {
        RingSearch x = mostRings();
        is("before", x.told(2) + " " + x.told(3) + " " + x.told(5) + " " + x.cycles(3), "2 28 2 61");
        x.clear();
        for (int what = 0; what <= 5; what++) is("told(" + what + ")", x.told(what), 0);
        refused("atom 0", INDEX, () -> x.atomTold(0, 0));
        refused("bond 0", INDEX, () -> x.bondTold(0, 0));
        refused("ring 0", INDEX, () -> x.ring(0));
        is("cycles", x.cycles(3), 0);
        is("a sum of before", x.isSum(0b1000011L), false);
    }

    private void promise22_all_else_stays() {
        RingSearch x = used();
        Checks.feed(x, "1");
        x.read();
        String due = "2 1 7 3 9 5 " + x.sets() + " " + x.place(6, 0);
        x.clear();
        StringBuilder got = new StringBuilder();
        for (int what = 6; what <= 10; what++) got.append(x.told(what)).append(' ');
        is("told", got.toString() + x.fault() + " " + x.sets() + " " + x.place(6, 0), due);
        is("what was written", x.written(8), (int) 'p');
        is("the tape goes on", Checks.read(x, "aa1"), 4);
    }

    private void promise22_twice_and_filled_again() {
        RingSearch x = mostRings();
        x.clear();
        x.clear();
        for (int i = 0; i < 32; i++) is("atom", x.atom(i % 16), i);
        refused("the 33rd", ROOM, () -> x.atom(0));
        for (int i = 1; i < 32; i++) is("bond", x.bond(i - 1, i, 0), i - 1);
        is("a row", x.told(4), 31);
    }

    /** Lines at the limits. */
    private static final class Lines {
        /** Five times four atoms all bonded, a ring of three and two atoms, hung together as a row. */
        static final String FORTY_BONDS = "a12a3a1a23a12a3a1a23a12a3a1a23a12a3a1a23a12a3a1a23a1aa1aa";
        static final String FOURTEEN_BONDS = "a126a37a46a17a5a4a3a25";
        static final String FIFTEEN_BONDS = "a1268a37a46a17a58a4a3a25";
        static final String LONGEST = longest();

        static String branches(int n) { return "a(".repeat(n) + "a" + ")".repeat(n); }

        static int atomsOf(String line) { return (int) line.chars().filter(b -> b >= 'a' && b <= 'p').count(); }

        /** 32 atoms, all but the first with a sign and in brackets, and nine closures, with a sign at both places. */
        private static String longest() {
            StringBuilder out = new StringBuilder("a");
            int leaf = 0;
            for (int hub = 0; hub < 5; hub++) {
                out.append("(=a");
                for (int i = 0; i < 5; i++, leaf++) {
                    int figure = leaf < 9 ? leaf + 1 : leaf - 15;
                    out.append("(=a").append(leaf < 9 || leaf > 15 ? "=" + figure : "").append(')');
                }
                out.append(')');
            }
            return out.append("(=a)").toString();
        }
    }
}
