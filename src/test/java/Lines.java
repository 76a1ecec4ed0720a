import java.util.Random;

/** Lines by chance: good ones, spoilt ones, and ones near the limits. */
final class Lines {
    private static final String BYTES = "abcp-=#:()123456789.?[]!~*@/q0 ";

    private final Random random;

    Lines(Random random) { this.random = random; }

    /** Any line, 200 bytes at most. */
    String any(boolean pattern) {
        String text = random.nextInt(5) == 0 ? big(pattern) : spoilt(good(pattern));
        return text.length() > 200 ? text.substring(0, 200) : text;
    }

    /** A line that keeps to the grammar; its closures may be wrong. */
    String good(boolean pattern) {
        StringBuilder out = new StringBuilder();
        int lines = pattern ? 1 : 1 + random.nextInt(3) / 2;
        for (int i = 0; i < lines; i++) {
            if (i > 0) out.append('.');
            chain(pattern, out, 0, 1 + random.nextInt(pattern ? 7 : 12));
        }
        return out.toString();
    }

    private void chain(boolean pattern, StringBuilder out, int depth, int atoms) {
        for (int i = 0; i < atoms; i++) {
            if (i > 0 || depth > 0) out.append(sign(pattern));
            out.append(atom(pattern));
            while (random.nextInt(3) == 0) out.append(sign(pattern)).append(1 + random.nextInt(3));
            while (depth < 9 && random.nextInt(7) == 0) {
                out.append('(');
                chain(pattern, out, depth + 1, 1 + random.nextInt(3));
                out.append(')');
            }
        }
    }

    private String sign(boolean pattern) {
        if (random.nextInt(3) > 0) return "";
        if (!pattern) return "" + "-=#:".charAt(random.nextInt(4));
        return "" + "-=#:*".charAt(random.nextInt(5)) + new String[] {"", "@", "/"}[random.nextInt(3)];
    }

    private String atom(boolean pattern) {
        if (!pattern || random.nextInt(3) > 0) return "" + (char) ('a' + random.nextInt(3));
        if (random.nextInt(3) == 0) return "?";
        StringBuilder out = new StringBuilder("[");
        if (random.nextInt(2) == 0) out.append('?');
        else for (int n = 1 + random.nextInt(3); n > 0; n--) out.append((char) ('a' + random.nextInt(3)));
        out.append(new String[] {"", "!", "~"}[random.nextInt(3)]);
        if (random.nextInt(2) == 0) out.append('=').append(1 + random.nextInt(4));
        return out.append(']').toString();
    }

    private String spoilt(String text) {
        StringBuilder out = new StringBuilder(text);
        int turns = random.nextInt(3);
        for (int i = 0; i < turns && out.length() > 0; i++) {
            int at = random.nextInt(out.length());
            char byChance = BYTES.charAt(random.nextInt(BYTES.length()));
            switch (random.nextInt(4)) {
                case 0 -> out.deleteCharAt(at);
                case 1 -> out.insert(at, byChance);
                case 2 -> out.setCharAt(at, byChance);
                default -> out.setLength(at);
            }
        }
        return out.toString();
    }

    /** Near the limits: many atoms, bonds, branches, and closures that mostly can be. */
    private String big(boolean pattern) {
        int atoms = pattern ? 8 + random.nextInt(4) : 18 + random.nextInt(16);
        int closures = random.nextInt(3), branches = 2 + random.nextInt(12), ends = 1 + random.nextInt(12);
        int[] openAt = new int[10];
        StringBuilder out = new StringBuilder();
        int open = 0;
        for (int i = 1; i <= atoms; i++) {
            out.append(pattern && random.nextInt(9) == 0 ? "[a=1]" : "a");
            for (int n = random.nextInt(closures + 1); n > 0; n--) out.append(figure(openAt, i, random.nextInt(40) == 0));
            if (i == atoms) break;
            while (open > 0 && random.nextInt(ends) == 0) { out.append(')'); open--; }
            if (random.nextInt(branches) < 2) { out.append('('); open++; }
        }
        out.append(")".repeat(open));
        for (int i = atoms + 3, n = 0; n < 6; n++) out.append(random.nextInt(3) == 0 ? "" : "a" + figure(openAt, i, false));
        return out.toString();
    }

    /** A figure that opens a closure, or closes one that an atom some way back has opened. */
    private String figure(int[] openAt, int atom, boolean anyhow) {
        int figure = 1 + random.nextInt(9);
        if (openAt[figure] > atom - 2 && openAt[figure] != 0 && !anyhow) return "";
        openAt[figure] = openAt[figure] == 0 ? atom : 0;
        return "" + figure;
    }
}
