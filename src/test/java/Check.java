/** Counts answers that are not the ones that are due, and has the ways to an object that all tests use. */
final class Check {

    private int wrong;
    private int done;

    void same(String what, long got, long want) {
        done++;
        if (got != want) {
            wrong++;
            System.out.println(what + " answered " + got + ", due is " + want);
        }
    }

    void same(String what, String got, String want) {
        done++;
        if (!got.equals(want)) {
            wrong++;
            System.out.println(what + " is " + got + ", due is " + want);
        }
    }

    void yes(String what, boolean got) {
        same(what, got ? 1 : 0, 1);
    }

    void no(String what, boolean got) {
        same(what, got ? 1 : 0, 0);
    }

    void finish() {
        System.out.println(done + " answers, " + wrong + " of them not as due");
        if (wrong != 0 || done == 0) {
            System.exit(1);
        }
    }

    static void write(Counted x, String text) {
        x.wipe();
        int[] codes = text.codePoints().toArray();
        for (int c : codes) {
            if (!x.type(c)) {
                throw new IllegalStateException("the text is too long: " + text);
            }
        }
    }

    static boolean apply(Counted x, int r, String pattern) {
        write(x, pattern);
        return x.apply(r);
    }

    /** Applies a pattern that must be one. */
    static void load(Counted x, int r, String pattern) {
        if (!apply(x, r, pattern)) {
            throw new IllegalStateException("no pattern: " + pattern);
        }
    }

    static String text(Counted x) {
        StringBuilder row = new StringBuilder();
        int length = x.length();
        for (int k = 0; k < length; k++) {
            row.appendCodePoint(x.at(k));
        }
        return row.toString();
    }

    /** Prints the register (so the TEXT changes, if it is not refused). */
    static String printed(Counted x, int r) {
        return x.print(r) == CodePointSets.NONE ? "refused" : text(x);
    }

    /** The edges, with a blank between them, and the number of strings. */
    static String edges(Counted x, int r) {
        StringBuilder row = new StringBuilder();
        int k = 0;
        for (int edge = x.edge(r, k); edge != CodePointSets.NONE; edge = x.edge(r, k)) {
            row.append(edge).append(' ');
            k++;
        }
        return row.append("strings ").append(x.strings(r)).toString();
    }

    /** The register becomes the code points from + 2 k for k = 0 .. count - 1, none of which touch. */
    static void loadComb(Counted x, int r, int other, int from, int count) {
        load(x, r, "[]");
        for (int k = 0; k < count; k += 50) {
            StringBuilder pattern = new StringBuilder("[");
            for (int i = k; i < count && i < k + 50; i++) {
                pattern.appendCodePoint(from + 2 * i);
            }
            load(x, other, pattern.append("]").toString());
            join(x, r, other);
        }
    }

    /** What is in the second register comes to the first one, which must have room for it. */
    static void join(Counted x, int r, int s) {
        if (!x.combine(r, s, 0)) {
            throw new IllegalStateException("refused: combine " + r + " and " + s);
        }
    }
}
