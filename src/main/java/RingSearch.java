import java.util.Arrays;

/**
 * One molecule (a graph of labelled atoms and bonds), its rings, the lines that it is read from and
 * written as, and all places of one pattern in it.
 */
public final class RingSearch {
    public static final int NONE = -1;

    private static final int ATOMS = 32;
    private static final int BONDS = 40;
    private static final int BONDS_OF_ATOM = 6;
    private static final int PATTERN_ATOMS = 10;
    private static final int PATTERN_BONDS = 14;
    private static final int LABELS = 16;
    private static final int SORTS = 4;
    private static final int IN_RING = 1;
    private static final int IN_NO_RING = 2;
    private static final int SHORTEST_COUNTED = 3;
    private static final int LONGEST_COUNTED = 7;
    private static final int FIGURES = 9;

    private final Graph molecule = new Graph(ATOMS, BONDS);
    private final Graph motif = new Graph(PATTERN_ATOMS, PATTERN_BONDS);
    private final Walk walk = new Walk();
    private final Rings rings = new Rings();
    private final CycleCounter counter = new CycleCounter();
    private final LineReader reader = new LineReader();
    private final LineWriter writer = new LineWriter();
    private final Finder finder = new Finder();

    public RingSearch() {
    }

    // ---- the molecule

    public int atom(int label) throws IllegalArgumentException, UnsupportedOperationException {
        if (label < 0 || label >= LABELS) {
            throw new IllegalArgumentException("a label is 0 .. 15");
        }
        if (molecule.atoms >= ATOMS) {
            throw new UnsupportedOperationException("there are 32 atoms");
        }
        return molecule.addAtom(label);
    }

    public int bond(int a, int b, int sort)
            throws IndexOutOfBoundsException, IllegalArgumentException, UnsupportedOperationException {
        needAtom(a);
        needAtom(b);
        if (sort < 0 || sort >= SORTS || a == b || molecule.areBonded(a, b)) {
            throw new IllegalArgumentException("a sort is 0 .. 3, and two different atoms have one bond");
        }
        if (molecule.bonds >= BONDS || molecule.isFull(a) || molecule.isFull(b)) {
            throw new UnsupportedOperationException("there are 40 bonds, or an atom has 6");
        }
        return molecule.addBond(a, b, sort, 0);
    }

    public int cut(int bond) throws IndexOutOfBoundsException {
        needBond(bond);
        molecule.removeBond(bond);
        return molecule.bonds;
    }

    public int atomTold(int atom, int what) throws IndexOutOfBoundsException, IllegalArgumentException {
        needAtom(atom);
        switch (what) {
            case 0:
                return molecule.label[atom];
            case 1:
                return molecule.degree[atom];
            case 2:
                return ringsNow().part[atom];
            case 3:
                return ringsNow().ringsOfAtom(atom);
            case 4:
                return ringsNow().leastSizeAt(atom);
            default:
                throw new IllegalArgumentException("of an atom 0 .. 4 is told");
        }
    }

    public int bondTold(int bond, int what) throws IndexOutOfBoundsException, IllegalArgumentException {
        needBond(bond);
        switch (what) {
            case 0:
                return molecule.sort[bond];
            case 1:
                return molecule.low[bond];
            case 2:
                return molecule.high[bond];
            case 3:
                return ringsNow().hasBond(bond) ? 0 : 1;
            case 4:
                return ringsNow().ringsOfBond(bond);
            case 5:
                return ringsNow().system[bond];
            default:
                throw new IllegalArgumentException("of a bond 0 .. 5 is told");
        }
    }

    public int between(int a, int b) throws IndexOutOfBoundsException {
        needAtom(a);
        needAtom(b);
        walk.from(molecule, a);
        return walk.level[b];
    }

    // ---- rings

    public long ring(int i) throws IndexOutOfBoundsException {
        needRing(i);
        return rings.bondsOf[i];
    }

    public int ringAtom(int i, int j) throws IndexOutOfBoundsException {
        needRing(i);
        if (j < 0 || j >= rings.sizeOf(i)) {
            throw new IndexOutOfBoundsException("there is no such atom of the ring");
        }
        return rings.atomAt(molecule, i, j);
    }

    public int cycles(int size) throws IllegalArgumentException {
        if (size < SHORTEST_COUNTED || size > LONGEST_COUNTED) {
            throw new IllegalArgumentException("cycles are counted of 3 .. 7 bonds");
        }
        return counter.countOf(molecule, ringsNow(), size);
    }

    public boolean isSum(long bonds) {
        return molecule.isEven(bonds);
    }

    // ---- lines

    public int feed(long bytes, int n) throws IllegalArgumentException, UnsupportedOperationException {
        if (n < 1 || n > 8) {
            throw new IllegalArgumentException("1 .. 8 bytes are fed");
        }
        if (!reader.hasRoom(n)) {
            throw new UnsupportedOperationException("the tape has room for 200 bytes");
        }
        reader.append(bytes, n);
        return reader.length;
    }

    public int read() {
        return reader.readInto(molecule, false);
    }

    public int pattern() {
        return reader.readInto(motif, true);
    }

    public int fault() {
        return reader.latestFault;
    }

    public int write() {
        return writer.writeOut(molecule);
    }

    public int written(int i) throws IndexOutOfBoundsException {
        if (i < 0 || i >= writer.length) {
            throw new IndexOutOfBoundsException("there is no such byte written");
        }
        return writer.text[i];
    }

    // ---- places

    public int search() {
        if (motif.atoms == 0) {
            return NONE;
        }
        return finder.findAll(motif, molecule, ringsNow());
    }

    public int place(int i, int q) throws IndexOutOfBoundsException {
        if (i < 0 || i >= finder.kept || q < 0 || q >= finder.width) {
            throw new IndexOutOfBoundsException("there is no such place, or no such atom of the pattern");
        }
        return finder.atomOf(i, q);
    }

    public int sets() {
        return finder.countSets();
    }

    public int told(int what) throws IllegalArgumentException {
        switch (what) {
            case 0:
                return molecule.atoms;
            case 1:
                return molecule.bonds;
            case 2:
                return ringsNow().parts;
            case 3:
                return ringsNow().count;
            case 4:
                return molecule.bonds - Long.bitCount(ringsNow().ringBonds);
            case 5:
                return ringsNow().systems;
            case 6:
                return motif.atoms;
            case 7:
                return motif.bonds;
            case 8:
                return finder.kept;
            case 9:
                return reader.length;
            case 10:
                return writer.length;
            default:
                throw new IllegalArgumentException("0 .. 10 is told");
        }
    }

    public void clear() {
        molecule.empty();
    }

    private void needAtom(int atom) {
        if (atom < 0 || atom >= molecule.atoms) {
            throw new IndexOutOfBoundsException("there is no such atom");
        }
    }

    private void needBond(int bond) {
        if (bond < 0 || bond >= molecule.bonds) {
            throw new IndexOutOfBoundsException("there is no such bond");
        }
    }

    private void needRing(int i) {
        if (i < 0 || i >= ringsNow().count) {
            throw new IndexOutOfBoundsException("there is no such ring");
        }
    }

    private Rings ringsNow() {
        rings.learn(molecule);
        return rings;
    }

    /** The number of the lowest bit that is set; 32 for none. */
    private static int lowestBit(int bits) {
        return Integer.bitCount((bits & -bits) - 1);
    }

    private static boolean hasBit(long bits, int i) {
        return (bits >> i & 1L) != 0;
    }

    /**
     * The molecule or the pattern. In the pattern `label` and `sort` hold sets, as bits; what it
     * wants stands in the rows `ringWant`, `bondsWant`, `bondRingWant`, which are 0 in the molecule.
     */
    private static final class Graph {
        final int mostAtoms;
        final int mostBonds;
        final int[] label;
        final int[] ringWant;
        final int[] bondsWant;
        final int[] degree;
        final int[] near;
        final int[] toAtom;
        final int[] toBond;
        final int[] low;
        final int[] high;
        final int[] sort;
        final int[] bondRingWant;
        int atoms;
        int bonds;
        int version;

        Graph(int mostAtoms, int mostBonds) {
            this.mostAtoms = mostAtoms;
            this.mostBonds = mostBonds;
            label = new int[mostAtoms];
            ringWant = new int[mostAtoms];
            bondsWant = new int[mostAtoms];
            degree = new int[mostAtoms];
            near = new int[mostAtoms];
            toAtom = new int[mostAtoms * BONDS_OF_ATOM];
            toBond = new int[mostAtoms * BONDS_OF_ATOM];
            low = new int[mostBonds];
            high = new int[mostBonds];
            sort = new int[mostBonds];
            bondRingWant = new int[mostBonds];
        }

        void empty() {
            atoms = 0;
            bonds = 0;
            version++;
        }

        int addAtom(int itsLabel) {
            label[atoms] = itsLabel;
            ringWant[atoms] = 0;
            bondsWant[atoms] = 0;
            degree[atoms] = 0;
            near[atoms] = 0;
            atoms++;
            version++;
            return atoms - 1;
        }

        int addBond(int a, int b, int itsSort, int itsRingWant) {
            low[bonds] = Math.min(a, b);
            high[bonds] = Math.max(a, b);
            sort[bonds] = itsSort;
            bondRingWant[bonds] = itsRingWant;
            linkOneWay(a, b, bonds);
            linkOneWay(b, a, bonds);
            bonds++;
            version++;
            return bonds - 1;
        }

        void removeBond(int bond) {
            for (int k = bond + 1; k < bonds; k++) {
                low[k - 1] = low[k];
                high[k - 1] = high[k];
                sort[k - 1] = sort[k];
                bondRingWant[k - 1] = bondRingWant[k];
            }
            bonds--;
            linkAll();
            version++;
        }

        /** Takes over what another graph holds that has no more than this one has room for. */
        void copyFrom(Graph other) {
            atoms = Math.min(other.atoms, mostAtoms);
            bonds = Math.min(other.bonds, mostBonds);
            System.arraycopy(other.label, 0, label, 0, atoms);
            System.arraycopy(other.ringWant, 0, ringWant, 0, atoms);
            System.arraycopy(other.bondsWant, 0, bondsWant, 0, atoms);
            System.arraycopy(other.low, 0, low, 0, bonds);
            System.arraycopy(other.high, 0, high, 0, bonds);
            System.arraycopy(other.sort, 0, sort, 0, bonds);
            System.arraycopy(other.bondRingWant, 0, bondRingWant, 0, bonds);
            linkAll();
            version++;
        }

        boolean areBonded(int a, int b) {
            return hasBit(near[a], b);
        }

        boolean isFull(int atom) {
            return degree[atom] >= BONDS_OF_ATOM;
        }

        /** Sums of cycles are just the sets of bonds of which every atom has an even number. */
        boolean isEven(long someBonds) {
            if (someBonds >> bonds != 0) {
                return false;
            }
            int odd = 0;
            for (int k = 0; k < bonds; k++) {
                if (hasBit(someBonds, k)) {
                    odd ^= 1 << low[k] ^ 1 << high[k];
                }
            }
            return odd == 0;
        }

        private void linkAll() {
            for (int a = 0; a < atoms; a++) {
                degree[a] = 0;
                near[a] = 0;
            }
            for (int k = 0; k < bonds; k++) {
                linkOneWay(low[k], high[k], k);
                linkOneWay(high[k], low[k], k);
            }
        }

        /** Bonds are linked by their numbers, so each atom's row has them in that order. */
        private void linkOneWay(int from, int to, int bond) {
            int slot = from * BONDS_OF_ATOM + degree[from];
            toAtom[slot] = to;
            toBond[slot] = bond;
            degree[from]++;
            near[from] |= 1 << to;
        }
    }

    /**
     * The first way from one atom to each other: of the fewest bonds, and of these the one whose
     * bonds, as bits, are the least number.
     */
    private static final class Walk {
        final int[] level = new int[ATOMS];
        final long[] bondsTo = new long[ATOMS];
        final int[] atomsTo = new int[ATOMS];
        final int[] order = new int[ATOMS];
        int reached;

        void from(Graph g, int start) {
            Arrays.fill(level, NONE);
            level[start] = 0;
            bondsTo[start] = 0L;
            atomsTo[start] = 1 << start;
            order[0] = start;
            reached = 1;
            for (int i = 0; i < reached && i < ATOMS; i++) {
                spread(g, order[i]);
            }
        }

        /** Atoms come level by level, so the way to x is settled before it is gone on with. */
        private void spread(Graph g, int x) {
            int first = x * BONDS_OF_ATOM;
            for (int slot = first; slot < first + g.degree[x]; slot++) {
                int y = g.toAtom[slot];
                long way = bondsTo[x] | 1L << g.toBond[slot];
                boolean isNew = level[y] == NONE;
                if (isNew) {
                    level[y] = level[x] + 1;
                    order[reached] = y;
                    reached++;
                }
                if (isNew || level[y] == level[x] + 1 && way < bondsTo[y]) {
                    bondsTo[y] = way;
                    atomsTo[y] = atomsTo[x] | 1 << y;
                }
            }
        }
    }

    /** The rings, parts and ring systems of a graph, as they were when it had a certain version. */
    private static final class Rings {
        /** n atoms and m bonds of one part give n * (m - n + 1) candidates at most: 420 of 40 bonds. */
        private static final int CANDIDATES = 512;
        private static final int SIZE_SHIFT = 40;
        private static final long ALL_BONDS = (1L << SIZE_SHIFT) - 1;

        final long[] bondsOf = new long[BONDS];
        final int[] atomsOf = new int[BONDS];
        final int[] part = new int[ATOMS];
        final int[] system = new int[BONDS];
        int count;
        int parts;
        int systems;
        long ringBonds;
        int ringAtoms;
        private final Walk walk = new Walk();
        private final long[] candidates = new long[CANDIDATES];
        private final long[] reduced = new long[BONDS];
        private int candidateCount;
        private int version = NONE;

        void learn(Graph g) {
            if (version == g.version) {
                return;
            }
            version = g.version;
            gatherAll(g);
            sortCandidates();
            keepRings(g);
            numberSystems(g);
        }

        int ringsOfAtom(int atom) {
            int n = 0;
            for (int i = 0; i < count; i++) {
                n += atomsOf[i] >>> atom & 1;
            }
            return n;
        }

        int ringsOfBond(int bond) {
            int n = 0;
            for (int i = 0; i < count; i++) {
                n += hasBit(bondsOf[i], bond) ? 1 : 0;
            }
            return n;
        }

        /** The first cycle through a bond is no sum of those before it, so it is a ring. */
        int leastSizeAt(int atom) {
            for (int i = 0; i < count; i++) {
                if (hasBit(atomsOf[i], atom)) {
                    return sizeOf(i);
                }
            }
            return 0;
        }

        boolean hasBond(int bond) {
            return hasBit(ringBonds, bond);
        }

        int sizeOf(int i) {
            return Long.bitCount(bondsOf[i]);
        }

        int atomAt(Graph g, int i, int j) {
            int at = lowestBit(atomsOf[i]);
            int came = NONE;
            for (int step = 0; step < j; step++) {
                int slot = slotOnward(g, bondsOf[i], at, came);
                if (slot != NONE) {
                    came = g.toBond[slot];
                    at = g.toAtom[slot];
                }
            }
            return at;
        }

        /** Where the row of an atom's bonds leads on in a ring, to the lesser atom if both ways are free. */
        private int slotOnward(Graph g, long ring, int at, int came) {
            int best = NONE;
            int first = at * BONDS_OF_ATOM;
            for (int slot = first; slot < first + g.degree[at]; slot++) {
                int bond = g.toBond[slot];
                boolean open = bond != came && hasBit(ring, bond);
                if (open && (best == NONE || g.toAtom[slot] < g.toAtom[best])) {
                    best = slot;
                }
            }
            return best;
        }

        private void gatherAll(Graph g) {
            candidateCount = 0;
            parts = 0;
            Arrays.fill(part, NONE);
            for (int a = 0; a < g.atoms; a++) {
                boolean isNew = part[a] == NONE;
                if (isNew || g.degree[a] > 1) {
                    walk.from(g, a);
                    gather(g, a);
                }
                if (isNew) {
                    numberPart();
                }
            }
        }

        private void numberPart() {
            for (int i = 0; i < walk.reached; i++) {
                part[walk.order[i]] = parts;
            }
            parts++;
        }

        /**
         * A ring that is no sum of lesser cycles holds the first way between any two of its atoms,
         * so from its least atom it is two first ways and one bond: no other cycles need be gone through.
         */
        private void gather(Graph g, int root) {
            int rootBit = 1 << root;
            for (int k = 0; k < g.bonds; k++) {
                int x = g.low[k];
                int y = g.high[k];
                if (x == root || y == root || walk.level[x] == NONE) {
                    continue;
                }
                boolean apart = (walk.atomsTo[x] & walk.atomsTo[y]) == rootBit;
                boolean least = ((walk.atomsTo[x] | walk.atomsTo[y]) & rootBit - 1) == 0;
                if (apart && least && candidateCount < CANDIDATES) {
                    long bonds = walk.bondsTo[x] | walk.bondsTo[y] | 1L << k;
                    candidates[candidateCount] = (long) Long.bitCount(bonds) << SIZE_SHIFT | bonds;
                    candidateCount++;
                }
            }
        }

        private void sortCandidates() {
            for (int gap = candidateCount / 2; gap > 0; gap = gap == 2 ? 1 : gap * 5 / 11) {
                for (int i = gap; i < candidateCount; i++) {
                    long moved = candidates[i];
                    int to = i;
                    for (; to >= gap && candidates[to - gap] > moved; to -= gap) {
                        candidates[to] = candidates[to - gap];
                    }
                    candidates[to] = moved;
                }
            }
        }

        private void keepRings(Graph g) {
            count = 0;
            ringBonds = 0L;
            ringAtoms = 0;
            int most = Math.min(g.bonds - g.atoms + parts, BONDS);
            for (int i = 0; i < candidateCount && count < most; i++) {
                long bonds = candidates[i] & ALL_BONDS;
                long rest = reduce(bonds);
                if (rest != 0L) {
                    keepRing(g, bonds, rest);
                }
            }
        }

        private void keepRing(Graph g, long bonds, long rest) {
            int atoms = 0;
            for (int k = 0; k < g.bonds; k++) {
                if (hasBit(bonds, k)) {
                    atoms |= 1 << g.low[k] | 1 << g.high[k];
                }
            }
            bondsOf[count] = bonds;
            atomsOf[count] = atoms;
            reduced[count] = rest;
            count++;
            ringBonds |= bonds;
            ringAtoms |= atoms;
        }

        /** Takes from a sum each kept ring whose own bond, the lowest of its reduced row, it holds. */
        private long reduce(long bonds) {
            long rest = bonds;
            for (int i = 0; i < count; i++) {
                long own = reduced[i] & -reduced[i];
                if ((rest & own) != 0L) {
                    rest ^= reduced[i];
                }
            }
            return rest;
        }

        private void numberSystems(Graph g) {
            systems = 0;
            Arrays.fill(system, NONE);
            for (int k = 0; k < g.bonds; k++) {
                if (system[k] == NONE && hasBond(k)) {
                    numberSystem(g, systemOf(1L << k));
                }
            }
        }

        private void numberSystem(Graph g, long bonds) {
            for (int k = 0; k < g.bonds; k++) {
                if (hasBit(bonds, k)) {
                    system[k] = systems;
                }
            }
            systems++;
        }

        /** Every cycle is a sum of rings that hang together by bonds, so the rings alone show the systems. */
        private long systemOf(long bonds) {
            long all = bonds;
            boolean grows = true;
            for (int pass = 0; grows && pass <= count; pass++) {
                long before = all;
                for (int i = 0; i < count; i++) {
                    if ((bondsOf[i] & all) != 0L) {
                        all |= bondsOf[i];
                    }
                }
                grows = all != before;
            }
            return all;
        }
    }

    /** Counts all cycles of a size, each from its least atom and toward the lesser neighbour. */
    private static final class CycleCounter {
        private final int[] near = new int[ATOMS];
        private final int[] counts = new int[LONGEST_COUNTED + 1];
        private int version = NONE;

        int countOf(Graph g, Rings rings, int size) {
            if (version != g.version) {
                version = g.version;
                learnNear(g, rings);
                Arrays.fill(counts, NONE);
            }
            if (counts[size] == NONE) {
                counts[size] = countAll(g.atoms, size);
            }
            return counts[size];
        }

        /** Bridges are left out, since no cycle goes over one. */
        private void learnNear(Graph g, Rings rings) {
            Arrays.fill(near, 0);
            for (int k = 0; k < g.bonds; k++) {
                if (rings.hasBond(k)) {
                    near[g.low[k]] |= 1 << g.high[k];
                    near[g.high[k]] |= 1 << g.low[k];
                }
            }
        }

        private int countAll(int atoms, int size) {
            int n = 0;
            for (int a = 0; a < atoms; a++) {
                int greater = -2 << a;
                int seconds = near[a] & greater;
                for (int left = Integer.bitCount(seconds); left > 0; left--) {
                    int second = lowestBit(seconds);
                    seconds &= seconds - 1;
                    n += countWays(second, greater & ~(1 << second), size - 2, seconds);
                }
            }
            return n;
        }

        /** The ways on from an atom over so many free atoms more, the last of them one of the ends. */
        private int countWays(int at, int free, int more, int ends) {
            int next = near[at] & free;
            if (more <= 1) {
                return Integer.bitCount(next & ends);
            }
            int n = 0;
            for (int left = Integer.bitCount(next); left > 0; left--) {
                int x = lowestBit(next);
                next &= next - 1;
                n += countWays(x, free & ~(1 << x), more - 1, ends);
            }
            return n;
        }
    }

    /** The tape, and how it is read, byte by byte, into a draft that is taken over if it has no fault. */
    private static final class LineReader {
        private static final int TAPE = 200;
        private static final int BRANCHES = 8;
        private static final int ALL_LABELS = 0xFFFF;
        private static final int ALL_SORTS = 0xF;
        private static final int RING_SHIFT = 4;

        private static final int WRONG_BYTE = 1;
        private static final int TOO_DEEP = 2;
        private static final int NO_ROOM = 3;
        private static final int WRONG_BOND = 4;
        private static final int FIGURE_OPEN = 5;

        /** What stands before the next byte. A sign may lead to a figure, too, or to an atom alone. */
        private static final int AT_START = 0;
        private static final int BEHIND_ATOM = 1;
        private static final int BEHIND_SIGN = 2;
        private static final int BEHIND_OPENING = 3;
        private static final int BEHIND_BRANCH = 4;
        private static final int BEHIND_LEADING_SIGN = 5;
        private static final int IN_SET = 6;
        private static final int BEHIND_SET_LETTER = 7;
        private static final int BEHIND_SET_ALL = 8;
        private static final int BEHIND_SET_RING = 9;
        private static final int BEHIND_SET_EQUALS = 10;
        private static final int BEHIND_SET_FIGURE = 11;

        int length;
        int latestFault;
        private final int[] tape = new int[TAPE];
        private final Graph draft = new Graph(ATOMS, BONDS);
        private final int[] branchAtom = new int[BRANCHES];
        private final int[] openAtom = new int[FIGURES + 1];
        private final int[] openSign = new int[FIGURES + 1];
        private boolean ofPattern;
        private int mostAtoms;
        private int mostBonds;
        private int state;
        private int depth;
        private int last;
        /** The sorts told, as bits, with what is wanted of rings above them; 0 if nothing is told. */
        private int sign;

        boolean hasRoom(int n) {
            return length + n <= TAPE;
        }

        void append(long bytes, int n) {
            for (int i = n - 1; i >= 0; i--) {
                tape[length] = (int) (bytes >>> 8 * i) & 0xFF;
                length++;
            }
        }

        int readInto(Graph target, boolean isPattern) {
            begin(target, isPattern);
            for (int i = 0; i < length; i++) {
                latestFault = step(tape[i]);
                if (latestFault != 0) {
                    return -1 - i;
                }
            }
            latestFault = faultAtEnd();
            if (latestFault != 0) {
                return -1 - length;
            }
            target.copyFrom(draft);
            length = 0;
            return target.atoms;
        }

        private void begin(Graph target, boolean isPattern) {
            ofPattern = isPattern;
            mostAtoms = target.mostAtoms;
            mostBonds = target.mostBonds;
            draft.empty();
            Arrays.fill(openAtom, NONE);
            state = AT_START;
            depth = 0;
            last = NONE;
            sign = 0;
        }

        private int faultAtEnd() {
            if (!mayEnd()) {
                return WRONG_BYTE;
            }
            for (int figure = 1; figure <= FIGURES; figure++) {
                if (openAtom[figure] != NONE) {
                    return FIGURE_OPEN;
                }
            }
            return 0;
        }

        private boolean mayEnd() {
            return isBehindChain() && depth == 0;
        }

        private boolean isBehindChain() {
            return state == BEHIND_ATOM || state == BEHIND_BRANCH;
        }

        /** Goes over one byte: the code of its fault, or 0. */
        private int step(int c) {
            if (state >= IN_SET) {
                return stepInSet(c);
            }
            if (isLetter(c)) {
                return takeAtom(ofPattern ? 1 << c - 'a' : c - 'a', BEHIND_ATOM);
            }
            if (c >= '1' && c <= '9') {
                return takeFigure(c - '0');
            }
            switch (c) {
                case '-':
                    return takeSign(1);
                case '=':
                    return takeSign(2);
                case '#':
                    return takeSign(4);
                case ':':
                    return takeSign(8);
                case '(':
                    return openBranch();
                case ')':
                    return closeBranch();
                default:
                    return ofPattern ? stepOfPattern(c) : stepOfMolecule(c);
            }
        }

        private int stepOfMolecule(int c) {
            if (c != '.' || !mayEnd()) {
                return WRONG_BYTE;
            }
            last = NONE;
            state = AT_START;
            return 0;
        }

        private int stepOfPattern(int c) {
            switch (c) {
                case '*':
                    return takeSign(ALL_SORTS);
                case '@':
                    return takeSignRing(IN_RING);
                case '/':
                    return takeSignRing(IN_NO_RING);
                case '?':
                    return takeAtom(ALL_LABELS, BEHIND_ATOM);
                case '[':
                    return takeAtom(0, IN_SET);
                default:
                    return WRONG_BYTE;
            }
        }

        private static boolean isLetter(int c) {
            return c >= 'a' && c < 'a' + LABELS;
        }

        /** An atom whose labels stand in [ ] comes at the [ , so that no room for it is told there. */
        private int takeAtom(int label, int stateBehind) {
            if (draft.atoms >= mostAtoms) {
                return NO_ROOM;
            }
            if (last != NONE) {
                if (draft.bonds >= mostBonds) {
                    return NO_ROOM;
                }
                if (draft.isFull(last)) {
                    return WRONG_BOND;
                }
            }
            int atom = draft.addAtom(label);
            if (last != NONE) {
                bind(last, atom, sign);
            }
            last = atom;
            sign = 0;
            state = stateBehind;
            return 0;
        }

        private void bind(int a, int b, int told) {
            if (ofPattern) {
                draft.addBond(a, b, told == 0 ? ALL_SORTS : told & ALL_SORTS, told >> RING_SHIFT);
            } else {
                draft.addBond(a, b, told == 0 ? 0 : lowestBit(told), 0);
            }
        }

        private int takeSign(int sorts) {
            if (state == BEHIND_ATOM) {
                state = BEHIND_SIGN;
            } else if (state == BEHIND_OPENING || state == BEHIND_BRANCH) {
                state = BEHIND_LEADING_SIGN;
            } else {
                return WRONG_BYTE;
            }
            sign = sorts;
            return 0;
        }

        private int takeSignRing(int want) {
            boolean behindSign = state == BEHIND_SIGN || state == BEHIND_LEADING_SIGN;
            if (!behindSign || sign > ALL_SORTS) {
                return WRONG_BYTE;
            }
            sign |= want << RING_SHIFT;
            return 0;
        }

        private int takeFigure(int figure) {
            if (state != BEHIND_ATOM && state != BEHIND_SIGN) {
                return WRONG_BYTE;
            }
            if (openAtom[figure] == NONE) {
                openAtom[figure] = last;
                openSign[figure] = sign;
            } else {
                int fault = closeFigure(openAtom[figure], openSign[figure]);
                if (fault != 0) {
                    return fault;
                }
                openAtom[figure] = NONE;
            }
            sign = 0;
            state = BEHIND_ATOM;
            return 0;
        }

        private int closeFigure(int other, int otherSign) {
            if (draft.bonds >= mostBonds) {
                return NO_ROOM;
            }
            boolean twoTold = sign != 0 && otherSign != 0 && sign != otherSign;
            if (other == last || draft.areBonded(other, last) || twoTold) {
                return WRONG_BOND;
            }
            if (draft.isFull(other) || draft.isFull(last)) {
                return WRONG_BOND;
            }
            bind(other, last, sign != 0 ? sign : otherSign);
            return 0;
        }

        private int openBranch() {
            if (!isBehindChain()) {
                return WRONG_BYTE;
            }
            if (depth >= BRANCHES) {
                return TOO_DEEP;
            }
            branchAtom[depth] = last;
            depth++;
            state = BEHIND_OPENING;
            return 0;
        }

        private int closeBranch() {
            if (!isBehindChain() || depth == 0) {
                return WRONG_BYTE;
            }
            depth--;
            last = branchAtom[depth];
            state = BEHIND_BRANCH;
            return 0;
        }

        private int stepInSet(int c) {
            if (state == BEHIND_SET_EQUALS) {
                return takeBondsWant(c);
            }
            if (isLetter(c)) {
                return takeSetLetter(c - 'a');
            }
            switch (c) {
                case '?':
                    return takeSetAll();
                case '!':
                    return takeRingWant(IN_RING);
                case '~':
                    return takeRingWant(IN_NO_RING);
                case '=':
                    return takeSetEquals();
                case ']':
                    return closeSet();
                default:
                    return WRONG_BYTE;
            }
        }

        private int takeSetLetter(int label) {
            if (state != IN_SET && state != BEHIND_SET_LETTER) {
                return WRONG_BYTE;
            }
            draft.label[last] |= 1 << label;
            state = BEHIND_SET_LETTER;
            return 0;
        }

        private int takeSetAll() {
            if (state != IN_SET) {
                return WRONG_BYTE;
            }
            draft.label[last] = ALL_LABELS;
            state = BEHIND_SET_ALL;
            return 0;
        }

        private boolean isBehindLabels() {
            return state == BEHIND_SET_LETTER || state == BEHIND_SET_ALL;
        }

        private int takeRingWant(int want) {
            if (!isBehindLabels()) {
                return WRONG_BYTE;
            }
            draft.ringWant[last] = want;
            state = BEHIND_SET_RING;
            return 0;
        }

        private int takeSetEquals() {
            if (!isBehindLabels() && state != BEHIND_SET_RING) {
                return WRONG_BYTE;
            }
            state = BEHIND_SET_EQUALS;
            return 0;
        }

        private int takeBondsWant(int c) {
            if (c < '1' || c > '0' + BONDS_OF_ATOM) {
                return WRONG_BYTE;
            }
            draft.bondsWant[last] = c - '0';
            state = BEHIND_SET_FIGURE;
            return 0;
        }

        private int closeSet() {
            if (state == IN_SET) {
                return WRONG_BYTE;
            }
            state = BEHIND_ATOM;
            return 0;
        }
    }

    /** Writes a molecule as a line: first it finds the bonds that lead on, then it goes along them. */
    private static final class LineWriter {
        /** 32 atoms and 40 bonds, each with a sign and, for a branch or closure, two bytes more, take fewer. */
        private static final int TEXT = 256;
        private static final char[] SIGNS = {'-', '=', '#', ':'};

        final int[] text = new int[TEXT];
        int length;
        private final int[] figureOf = new int[BONDS];
        private int openFigures;
        private long leading;
        private int met;
        private boolean lacksFigure;

        int writeOut(Graph g) {
            length = 0;
            openFigures = 0;
            leading = 0L;
            met = 0;
            lacksFigure = false;
            Arrays.fill(figureOf, 0);
            for (int a = 0; a < g.atoms && !lacksFigure; a++) {
                if (hasBit(met, a)) {
                    continue;
                }
                if (length > 0) {
                    put('.');
                }
                findLeading(g, a, 0);
                writeFrom(g, a, NONE, 0);
            }
            if (lacksFigure) {
                length = 0;
                return NONE;
            }
            return length;
        }

        private void findLeading(Graph g, int atom, int depth) {
            met |= 1 << atom;
            if (depth >= ATOMS) {
                return;
            }
            int first = atom * BONDS_OF_ATOM;
            for (int slot = first; slot < first + g.degree[atom]; slot++) {
                if (!hasBit(met, g.toAtom[slot])) {
                    leading |= 1L << g.toBond[slot];
                    findLeading(g, g.toAtom[slot], depth + 1);
                }
            }
        }

        private void writeFrom(Graph g, int atom, int came, int depth) {
            put('a' + g.label[atom]);
            writeClosures(g, atom);
            if (lacksFigure || depth >= ATOMS) {
                return;
            }
            int first = atom * BONDS_OF_ATOM;
            int left = countOnward(g, atom, came);
            for (int slot = first; slot < first + g.degree[atom]; slot++) {
                int bond = g.toBond[slot];
                if (bond != came && hasBit(leading, bond)) {
                    left--;
                    writeBranch(g, slot, depth, left > 0);
                }
            }
        }

        private int countOnward(Graph g, int atom, int came) {
            int n = 0;
            int first = atom * BONDS_OF_ATOM;
            for (int slot = first; slot < first + g.degree[atom]; slot++) {
                int bond = g.toBond[slot];
                n += bond != came && hasBit(leading, bond) ? 1 : 0;
            }
            return n;
        }

        private void writeBranch(Graph g, int slot, int depth, boolean inBrackets) {
            int bond = g.toBond[slot];
            if (inBrackets) {
                put('(');
            }
            putSign(g.sort[bond]);
            writeFrom(g, g.toAtom[slot], bond, depth + 1);
            if (inBrackets) {
                put(')');
            }
        }

        private void writeClosures(Graph g, int atom) {
            int first = atom * BONDS_OF_ATOM;
            for (int slot = first; slot < first + g.degree[atom]; slot++) {
                int bond = g.toBond[slot];
                if (!hasBit(leading, bond)) {
                    writeClosure(g, bond);
                }
            }
        }

        private void writeClosure(Graph g, int bond) {
            int figure = figureOf[bond];
            if (figure != 0) {
                put('0' + figure);
                openFigures &= ~(1 << figure);
                return;
            }
            figure = leastFreeFigure();
            if (figure > FIGURES) {
                lacksFigure = true;
                return;
            }
            figureOf[bond] = figure;
            openFigures |= 1 << figure;
            putSign(g.sort[bond]);
            put('0' + figure);
        }

        private int leastFreeFigure() {
            int figure = 1;
            while (figure <= FIGURES && hasBit(openFigures, figure)) {
                figure++;
            }
            return figure;
        }

        private void putSign(int sort) {
            if (sort > 0 && sort < SORTS) {
                put(SIGNS[sort]);
            }
        }

        private void put(int c) {
            if (length < TEXT) {
                text[length] = c;
                length++;
            }
        }
    }

    /** Finds the places of a pattern in order: sets of atoms are bits, and a place is packed in a long. */
    private static final class Finder {
        private static final int KEPT = 2000;
        private static final int ATOM_BITS = 5;
        /** A power of two, over twice the places kept, so that a free slot is near. */
        private static final int TABLE = 4096;
        private static final int TABLE_SHIFT = 20;
        private static final int SCATTER = 0x9E3779B1;

        int kept;
        int width;
        private final long[] places = new long[KEPT];
        private final int[] fits = new int[PATTERN_ATOMS];
        private final int[] nearBy = new int[PATTERN_BONDS * ATOMS];
        private final int[] at = new int[PATTERN_ATOMS];
        private final int[] table = new int[TABLE];
        private int found;
        private int different;

        int findAll(Graph motif, Graph molecule, Rings rings) {
            width = motif.atoms;
            kept = 0;
            found = 0;
            different = NONE;
            for (int q = 0; q < motif.atoms; q++) {
                fits[q] = fittingAtoms(motif, q, molecule, rings);
            }
            Arrays.fill(nearBy, 0);
            for (int k = 0; k < motif.bonds; k++) {
                learnNear(motif, k, molecule, rings);
            }
            extend(motif, 0, 0, 0L);
            return found;
        }

        int atomOf(int i, int q) {
            return (int) (places[i] >>> ATOM_BITS * q) & ATOMS - 1;
        }

        int countSets() {
            if (kept == 0) {
                return 0;
            }
            if (different == NONE) {
                different = 0;
                Arrays.fill(table, 0);
                for (int i = 0; i < kept; i++) {
                    enter(atomsOf(i));
                }
            }
            return different;
        }

        private int atomsOf(int i) {
            int atoms = 0;
            for (int q = 0; q < width; q++) {
                atoms |= 1 << atomOf(i, q);
            }
            return atoms;
        }

        /** A place has an atom at least, so 0 is free to mark an empty slot. */
        private void enter(int atoms) {
            int start = atoms * SCATTER >>> TABLE_SHIFT;
            for (int n = 0; n < TABLE; n++) {
                int slot = start + n & TABLE - 1;
                if (table[slot] == atoms) {
                    return;
                }
                if (table[slot] == 0) {
                    table[slot] = atoms;
                    different++;
                    return;
                }
            }
        }

        private static boolean suits(int ringWant, boolean inRing) {
            return ringWant == 0 || (ringWant == IN_RING) == inRing;
        }

        private static int fittingAtoms(Graph motif, int q, Graph molecule, Rings rings) {
            int fitting = 0;
            for (int a = 0; a < molecule.atoms; a++) {
                boolean labelFits = hasBit(motif.label[q], molecule.label[a]);
                boolean ringFits = suits(motif.ringWant[q], hasBit(rings.ringAtoms, a));
                boolean bondsFit = motif.bondsWant[q] == 0 || motif.bondsWant[q] == molecule.degree[a];
                if (labelFits && ringFits && bondsFit) {
                    fitting |= 1 << a;
                }
            }
            return fitting;
        }

        /** For a bond of the pattern: the atoms that each atom of the molecule has such a bond to. */
        private void learnNear(Graph motif, int k, Graph molecule, Rings rings) {
            int row = k * ATOMS;
            for (int b = 0; b < molecule.bonds; b++) {
                boolean sortFits = hasBit(motif.sort[k], molecule.sort[b]);
                if (sortFits && suits(motif.bondRingWant[k], rings.hasBond(b))) {
                    nearBy[row + molecule.low[b]] |= 1 << molecule.high[b];
                    nearBy[row + molecule.high[b]] |= 1 << molecule.low[b];
                }
            }
        }

        private void extend(Graph motif, int q, int used, long place) {
            int open = openAtoms(motif, q) & ~used;
            if (q >= width - 1) {
                found += Integer.bitCount(open);
                keepEach(open, q, place);
                return;
            }
            for (int left = Integer.bitCount(open); left > 0; left--) {
                int a = lowestBit(open);
                open &= open - 1;
                at[q] = a;
                extend(motif, q + 1, used | 1 << a, place | (long) a << ATOM_BITS * q);
            }
        }

        /** The atoms that have all bonds that are wanted to the atoms of the place so far. */
        private int openAtoms(Graph motif, int q) {
            int open = fits[q];
            int first = q * BONDS_OF_ATOM;
            for (int slot = first; slot < first + motif.degree[q]; slot++) {
                int p = motif.toAtom[slot];
                if (p < q) {
                    open &= nearBy[motif.toBond[slot] * ATOMS + at[p]];
                }
            }
            return open;
        }

        private void keepEach(int atoms, int q, long place) {
            int open = atoms;
            for (int left = Integer.bitCount(open); left > 0 && kept < KEPT; left--) {
                places[kept] = place | (long) lowestBit(open) << ATOM_BITS * q;
                kept++;
                open &= open - 1;
            }
        }
    }
}
