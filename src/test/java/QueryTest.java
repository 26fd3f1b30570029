/** Promises 11 to 17: contains, has, includes, size, strings, edge, nth. */
public final class QueryTest {

    private static final Check CHECK = new Check();
    private static final int[] NO_REGISTERS = {-1, 3, 4, Integer.MIN_VALUE, Integer.MAX_VALUE};

    public static void main(String[] args) {
        containsCodePoints();
        containsInManyRanges();
        hasTheText();
        includesMembers();
        countsMembers();
        tellsEdges();
        tellsNth();
        noRegister();
        changesNothing();
        CHECK.finish();
    }

    private static void containsCodePoints() {
        Counted x = new Counted();
        Check.load(x, 1, "[\\x{0}b-d\\x{10ffff}{xy}]");
        int[] in = {0, 98, 99, 100, 1114111};
        for (int c : in) {
            CHECK.yes("contains " + c, x.contains(1, c));
            CHECK.no("other register contains " + c, x.contains(0, c));
        }
        int[] out = {1, 97, 101, 120, 121, 1114110, 1114112, -1, Integer.MIN_VALUE, Integer.MAX_VALUE};
        for (int c : out) {
            CHECK.no("contains " + c, x.contains(1, c));
        }
        Check.load(x, 2, "[^]");
        CHECK.yes("all contain 0", x.contains(2, 0));
        CHECK.yes("all contain the last", x.contains(2, 1114111));
        CHECK.no("all contain -1", x.contains(2, -1));
        CHECK.no("all contain 1114112", x.contains(2, 1114112));
    }

    private static void containsInManyRanges() {
        Counted x = new Counted();
        Check.loadComb(x, 0, 1, 1000, 100);
        for (int c = 998; c < 1202; c++) {
            boolean due = c >= 1000 && c < 1200 && c % 2 == 0;
            CHECK.same("contains " + c, x.contains(0, c) ? 1 : 0, due ? 1 : 0);
        }
    }

    private static void hasText(Counted x, String text, boolean due) {
        Check.write(x, text);
        CHECK.same("has " + text, x.has(0) ? 1 : 0, due ? 1 : 0);
        CHECK.same("text stays", Check.text(x), text);
    }

    private static void hasTheText() {
        Counted x = new Counted();
        Check.load(x, 0, "[a-c{ab}{xyz}{\\x{0}\\x{0}}]");
        hasText(x, "", false);
        hasText(x, "a", true);
        hasText(x, "d", false);
        hasText(x, "x", false);
        hasText(x, "ab", true);
        hasText(x, "ba", false);
        hasText(x, "abc", false);
        hasText(x, "aa", false);
        hasText(x, "xyz", true);
        hasText(x, "xy", false);
        hasText(x, "yz", false);
        hasText(x, "xyza", false);
        hasText(x, "abab", false);
        hasText(x, "\u0000\u0000", true);
        hasText(x, "\u0000\u0000\u0000", false);
        Check.load(x, 0, "[{ab}]");
        hasText(x, "xyz", false);
        Check.load(x, 0, "[a]");
        hasText(x, "ab", false);
        Check.write(x, "a");
        for (int r : NO_REGISTERS) {
            CHECK.no("has " + r, x.has(r));
        }
        CHECK.no("an empty register has a", x.has(1));
    }

    private static void included(String whole, String part, boolean due) {
        Counted x = new Counted();
        Check.load(x, 2, whole);
        Check.load(x, 0, part);
        CHECK.same(whole + " includes " + part, x.includes(2, 0) ? 1 : 0, due ? 1 : 0);
        CHECK.yes("includes itself", x.includes(2, 2) && x.includes(0, 0));
        CHECK.yes("includes nothing", x.includes(2, 1) && x.includes(0, 1));
    }

    private static void includesMembers() {
        included("[a-f]", "[b-d]", true);
        included("[a-f]", "[a-f]", true);
        included("[a-f]", "[a-g]", false);
        included("[a-ce-f]", "[b-e]", false);
        included("[b-d]", "[a-f]", false);
        included("[]", "[]", true);
        included("[]", "[a]", false);
        included("[^]", "[^a]", true);
        included("[^a]", "[^]", false);
        included("[^]", "[{ab}]", false);
        included("[{ab}{cd}]", "[{ab}]", true);
        included("[{ab}]", "[{ab}{cd}]", false);
        included("[{abc}]", "[{ab}]", false);
        included("[ab]", "[{ab}]", false);
        included("[a{ab}]", "[a{ab}]", true);
    }

    private static void countsMembers() {
        Counted x = new Counted();
        Check.load(x, 0, "[a-ez{ab}{abc}{ab}]");
        CHECK.same("size", x.size(0), 6);
        CHECK.same("strings", x.strings(0), 2);
        Check.load(x, 1, "[^]");
        CHECK.same("size of all", x.size(1), 1114112);
        CHECK.same("strings of all", x.strings(1), 0);
        CHECK.same("size of none", x.size(2), 0);
        CHECK.same("strings of none", x.strings(2), 0);
    }

    private static void tellsEdges() {
        Counted x = new Counted();
        Check.load(x, 1, "[a-cx\\x{10ffff}{pq}]");
        int[] want = {97, 100, 120, 121, 1114111, 1114112, -1};
        for (int k = 0; k < want.length; k++) {
            CHECK.same("edge " + k, x.edge(1, k), want[k]);
        }
        int[] outside = {-1, 7, 200, 400, Integer.MIN_VALUE, Integer.MAX_VALUE};
        for (int k : outside) {
            CHECK.same("edge " + k, x.edge(1, k), -1);
        }
        Check.load(x, 1, "[m]");
        CHECK.same("edge behind a smaller set", x.edge(1, 2), -1);
    }

    private static void tellsNth() {
        Counted x = new Counted();
        Check.load(x, 2, "[xa-c\\x{10ffff}{pq}]");
        int[] want = {97, 98, 99, 120, 1114111, -1};
        for (int i = 0; i < want.length; i++) {
            CHECK.same("nth " + i, x.nth(2, i), want[i]);
        }
        int[] outside = {-1, 6, 200, Integer.MIN_VALUE, Integer.MAX_VALUE};
        for (int i : outside) {
            CHECK.same("nth " + i, x.nth(2, i), -1);
        }
        Check.load(x, 0, "[^b]");
        CHECK.same("nth before the gap", x.nth(0, 97), 97);
        CHECK.same("nth behind the gap", x.nth(0, 98), 99);
        CHECK.same("the last", x.nth(0, 1114110), 1114111);
        CHECK.same("behind the last", x.nth(0, 1114111), -1);
    }

    private static void noRegister() {
        Counted x = new Counted();
        for (int r = 0; r < 3; r++) {
            Check.load(x, r, "[^]");
        }
        for (int r : NO_REGISTERS) {
            CHECK.no("contains", x.contains(r, 97));
            CHECK.no("includes first", x.includes(r, 0));
            CHECK.no("includes second", x.includes(0, r));
            CHECK.no("includes both", x.includes(r, r));
            CHECK.same("size", x.size(r), -1);
            CHECK.same("strings", x.strings(r), -1);
            CHECK.same("edge", x.edge(r, 0), -1);
            CHECK.same("nth", x.nth(r, 0), -1);
        }
    }

    private static void changesNothing() {
        Counted x = new Counted();
        Check.load(x, 0, "[a-c{ab}]");
        Check.load(x, 1, "[b]");
        Check.write(x, "ab");
        x.has(0);
        x.contains(0, 97);
        x.includes(0, 1);
        x.includes(1, 0);
        x.nth(0, 1);
        x.span(0, 0, true);
        CHECK.same("text", Check.text(x), "ab");
        CHECK.same("register 0", Check.edges(x, 0), "97 100 strings 1");
        CHECK.same("register 1", Check.edges(x, 1), "98 99 strings 0");
        CHECK.same("register 2", Check.edges(x, 2), "strings 0");
    }
}
