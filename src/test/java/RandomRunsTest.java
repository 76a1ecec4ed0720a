import java.util.Arrays;
import java.util.List;
import java.util.Random;

/**
 * Runs of 512 calls by chance on one object, the same at each run: every answer against the model. A check is
 * named after the promise of its call.
 */
public final class RandomRunsTest {
    private static final int RUNS = 1000;
    private static final int CALLS = 512;
    private static final int MOST_RINGS = 11;
    /** The calls by the numbers of their promises. */
    private static final List<String> PROMISES = List.of("", "RingSearch", "atom", "bond", "cut", "atomTold", "bondTold", "between",
        "ring", "ringAtom", "cycles", "isSum", "feed", "read", "pattern", "fault", "write", "written", "search", "place", "sets", "told", "clear");

    private final Checks c = new Checks();
    private final Random random = new Random(20261116);
    private final Lines lines = new Lines(random);
    private final int[] made = new int[Checks.PROMISES + 1];
    private RingSearch x;
    private Model model;
    private int left;

    public static void main(String[] args) {
        RandomRunsTest t = new RandomRunsTest();
        for (int i = 0; i < RUNS; i++) t.run(i);
        t.c.under("all promises");
        for (int p = 1; p <= Checks.PROMISES; p++) t.c.same("promise " + p + " has many calls", t.made[p] >= RUNS, true);
        System.exit(t.c.end("RandomRunsTest"));
    }

    private void run(int i) {
        x = new RingSearch();
        model = new Model();
        left = CALLS;
        made[1]++;
        c.under("promise01_RingSearch, run " + i);
        for (int what = 0; what <= 10; what++) c.same("told(" + what + ")", x.told(what), 0);
        left -= 11;
        boolean spoils = i % 4 == 3;
        if (i % 2 == 0) build(random.nextInt(30), random.nextInt(40));
        while (left > 0) step(spoils);
    }

    private void build(int atoms, int bonds) {
        for (int i = 0; i < atoms; i++) call("atom", random.nextInt(3));
        for (int i = 0; i < bonds; i++) bondCall();
    }

    private void step(boolean spoils) {
        switch (random.nextInt(24)) {
            case 0 -> line(spoils && random.nextInt(6) == 0 ? lines.any(false) : whole(false), "read");
            case 1, 2 -> line(spoils && random.nextInt(6) == 0 ? lines.any(true) : whole(true), "pattern");
            case 3 -> call("search");
            case 4 -> call("atom", edgy(16));
            case 5, 6 -> bondCall();
            case 7 -> call("cut", edgy(model.g.bonds.size()));
            case 8, 9 -> call("atomTold", edgy(model.g.labels.size()), edgy(5));
            case 10, 11 -> call("bondTold", edgy(model.g.bonds.size()), edgy(6));
            case 12 -> call("between", edgy(model.g.labels.size()), edgy(model.g.labels.size()));
            case 13 -> call("ring", edgy(model.facts().rings.size()));
            case 14 -> call("ringAtom", edgy(model.facts().rings.size()), edgy(7));
            case 15 -> call("cycles", random.nextInt(4) == 0 ? edgy(3) : 3 + edgy(5));
            case 16 -> call("isSum", someBonds());
            case 17 -> feedCall();
            case 18 -> call(random.nextBoolean() ? "fault" : "sets");
            case 19 -> writing();
            case 20, 21 -> placeCall();
            case 22 -> call("told", edgy(11));
            default -> { if (random.nextInt(12) == 0) call("clear"); else call("told", random.nextInt(11)); }
        }
    }

    /** A line without a fault, small enough for the oracle. */
    private String whole(boolean pattern) {
        for (int turn = 0; turn < 200; turn++) {
            String text = lines.good(pattern);
            Oracle.Line line = Oracle.parse(text, pattern);
            if (line.fault == 0 && line.net.bonds.size() - line.net.labels.size() < MOST_RINGS - 3) return text;
        }
        return "a";
    }

    private void line(String text, String into) {
        if (model.tape.length() > 0 && random.nextInt(3) > 0) { call(into); return; }
        for (int at = 0; at < text.length(); ) {
            int n = Math.min(1 + random.nextInt(8), text.length() - at);
            long bytes = n == 8 ? 0 : random.nextLong() << 8 * n;
            for (int j = 0; j < n; j++) bytes |= (long) text.charAt(at + j) << 8 * (n - 1 - j);
            call("feed", bytes, n);
            at += n;
        }
        if (isTooDense(into)) return;
        call(into);
        if (into.equals("pattern")) call("search");
    }

    /** What stood on the tape before may make more of the line than the oracle can go through. */
    private boolean isTooDense(String into) {
        Oracle.Line line = Oracle.parse(model.tape, into.equals("pattern"));
        return line.fault == 0 && line.net.bonds.size() - line.net.labels.size() >= MOST_RINGS;
    }

    /** Bytes that spoil what comes behind them, so they are few. */
    private void feedCall() {
        if (random.nextInt(40) == 0) call("feed", random.nextLong(), edgy(9));
        else call("feed", random.nextLong(), random.nextBoolean() ? -random.nextInt(3) : 9 + random.nextInt(3));
    }

    private void bondCall() {
        int n = model.g.labels.size();
        boolean full = model.facts().rings.size() >= MOST_RINGS;
        int a = edgy(n), b = edgy(n), sort = random.nextInt(12) == 0 ? edgy(4) : random.nextInt(4);
        if (full && model.g.bonds.size() < 40) sort = 4 + random.nextInt(3);
        call("bond", a, b, sort);
    }

    private void placeCall() {
        int width = model.kept.isEmpty() ? 1 : model.kept.get(0).length;
        call("place", edgy(model.kept.size()), edgy(width));
    }

    private void writing() {
        call("write");
        for (int i = 0; i < 5; i++) call("written", edgy(model.written.length()));
    }

    private long someBonds() {
        long sum = 0;
        List<Long> rings = model.facts().rings;
        for (int n = random.nextInt(4); n > 0 && !rings.isEmpty(); n--) sum ^= rings.get(random.nextInt(rings.size()));
        return random.nextInt(3) == 0 ? sum ^ 1L << random.nextInt(64) : sum;
    }

    /** Mostly one of 0 .. n - 1, at times one beside them, or far from them. */
    private int edgy(int n) {
        switch (random.nextInt(20)) {
            case 0: return -1;
            case 1: return n;
            case 2: return random.nextBoolean() ? Integer.MIN_VALUE : Integer.MAX_VALUE;
            default: return n > 0 ? random.nextInt(n) : 0;
        }
    }

    private void call(String name, long... a) {
        if (left == 0) return;
        left--;
        int promise = PROMISES.indexOf(name);
        made[promise]++;
        Object due = model.answer(name, a);
        c.under(String.format("promise%02d_%s", promise, name));
        c.same("call " + (CALLS - left) + " " + Arrays.toString(a), Checks.answer(() -> answerOf(name, a)), due);
    }

    private Object answerOf(String name, long[] a) {
        switch (name) {
            case "atom": return x.atom((int) a[0]);
            case "bond": return x.bond((int) a[0], (int) a[1], (int) a[2]);
            case "cut": return x.cut((int) a[0]);
            case "atomTold": return x.atomTold((int) a[0], (int) a[1]);
            case "bondTold": return x.bondTold((int) a[0], (int) a[1]);
            case "between": return x.between((int) a[0], (int) a[1]);
            case "ring": return x.ring((int) a[0]);
            case "ringAtom": return x.ringAtom((int) a[0], (int) a[1]);
            case "cycles": return x.cycles((int) a[0]);
            case "isSum": return x.isSum(a[0]);
            case "feed": return x.feed(a[0], (int) a[1]);
            case "read": return x.read();
            case "pattern": return x.pattern();
            case "fault": return x.fault();
            case "write": return x.write();
            case "written": return x.written((int) a[0]);
            case "search": return x.search();
            case "place": return x.place((int) a[0], (int) a[1]);
            case "sets": return x.sets();
            case "told": return x.told((int) a[0]);
            case "clear": x.clear(); return "done";
            default: throw new IllegalStateException(name);
        }
    }
}
