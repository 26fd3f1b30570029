/** Counts answers that are not the ones that are due, and has the ways to an object that all tests use. */
final class Check {

    private int wrong;
    private int done;

    void same(String what, long got, long want) {
        done++;
        if (got != want) {
            wrong++;
            System.out.println(what + " answered " + got + ", due is " + want);
        }
    }

    void same(String what, String got, String want) {
        done++;
        if (!got.equals(want)) {
            wrong++;
            System.out.println(what + " is " + got + ", due is " + want);
        }
    }

    void yes(String what, boolean got) {
        same(what, got ? 1 : 0, 1);
    }

    void no(String what, boolean got) {
        same(what, got ? 1 : 0, 0);
    }

    void finish() {
        System.out.println(done + " answers, " + wrong + " of them not as due");
        if (wrong != 0 || done == 0) {
            System.exit(1);
        }
    }

    static void write(CodePointSets x, String text) {
        x.wipe();
        int[] codes = text.codePoints().toArray();
        for (int c : codes) {
            if (!x.type(c)) {
                throw new IllegalStateException("the text is too long: " + text);
            }
        }
    }

    static boolean apply(CodePointSets x, int r, String pattern) {
        write(x, pattern);
        return x.apply(r);
    }

    /** Applies a pattern that must be one. */
    static void load(CodePointSets x, int r, String pattern) {
        if (!apply(x, r, pattern)) {
            throw new IllegalStateException("no pattern: " + pattern);
        }
    }

    static String text(CodePointSets x) {
        StringBuilder row = new StringBuilder();
        for (int k = 0; k < x.length(); k++) {
            row.appendCodePoint(x.at(k));
        }
        return row.toString();
    }

    /** Prints the register (so the TEXT changes, if it is not refused). */
    static String printed(CodePointSets x, int r) {
        return x.print(r) == CodePointSets.NONE ? "refused" : text(x);
    }

    /** The edges, with a blank between them, and the number of strings. */
    static String edges(CodePointSets x, int r) {
        StringBuilder row = new StringBuilder();
        for (int k = 0; x.edge(r, k) != CodePointSets.NONE; k++) {
            row.append(x.edge(r, k)).append(' ');
        }
        return row.append("strings ").append(x.strings(r)).toString();
    }

    /** The register becomes the code points from + 2 k for k = 0 .. count - 1, none of which touch. */
    static void loadComb(CodePointSets x, int r, int other, int from, int count) {
        load(x, r, "[]");
        for (int k = 0; k < count; k += 25) {
            StringBuilder pattern = new StringBuilder("[");
            for (int i = k; i < count && i < k + 25; i++) {
                pattern.appendCodePoint(from + 2 * i);
            }
            load(x, other, pattern.append("]").toString());
            if (!x.combine(r, other, 0)) {
                throw new IllegalStateException("refused at " + k);
            }
        }
    }
}
