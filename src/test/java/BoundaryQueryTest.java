/** The boundary cases of promises 11 to 17: contains, has, includes, size, strings, edge, nth. */
public final class BoundaryQueryTest {

    private static final Check CHECK = new Check();
    private static final int[] NO_REGISTERS = {-1, 3, 4, -2, 256, Integer.MIN_VALUE, Integer.MAX_VALUE};
    private static final String EIGHT = "{aa}{ab}{ac}{ad}{ba}{bb}{bc}{bd}";

    public static void main(String[] args) {
        containsAtTheBoundsOfRanges();
        containsNoSuchCodePoint();
        containsNoSuchRegister();
        containsNoStrings();
        containsInTheFirstAndTheLastRange();
        hasTheEmptyText();
        hasACodePoint();
        hasAString();
        hasNoStringThatIsGone();
        hasALongerText();
        hasNoSuchRegister();
        includesNothingAndAll();
        includesItself();
        includesAtTheBounds();
        includesStrings();
        includesFullOnes();
        includesNoSuchRegister();
        sizes();
        sizeNoSuchRegister();
        numbersOfStrings();
        stringsNoSuchRegister();
        edgesAtTheBounds();
        edgesOfAHundredRanges();
        edgeNoSuchOne();
        edgeNoSuchRegister();
        nthAtTheBounds();
        nthOfAll();
        nthNoSuchOne();
        nthNoSuchRegister();
        CHECK.finish();
    }

    /** The registers are the pattern, all code points, and none. */
    private static Scene with(String pattern, String text) {
        return new Scene(CHECK, pattern + " with TEXT " + text, x -> {
            Check.load(x, 0, pattern);
            Check.load(x, 1, "[^]");
            Check.write(x, text);
        });
    }

    private static void contained(String pattern, int c, boolean due) {
        Scene scene = with(pattern, "text");
        scene.answers("contains " + c, due ? 1 : 0, x -> x.contains(0, c) ? 1 : 0);
        scene.affirms("all contain " + c, x -> x.contains(1, c));
        scene.refuses("nothing contains " + c, x -> x.contains(2, c));
    }

    /** "Whether code point c is in register r" */
    private static void containsAtTheBoundsOfRanges() {
        for (int c = 96; c <= 104; c++) {
            contained("[b-df]", c, c >= 98 && c <= 100 || c == 102);
        }
        contained("[\\x{0}]", 0, true);
        contained("[\\x{0}]", 1, false);
        contained("[\\x{1}]", 0, false);
        contained("[\\x{10ffff}]", 1114111, true);
        contained("[\\x{10ffff}]", 1114110, false);
        contained("[\\x{10fffe}]", 1114111, false);
        contained("[^\\x{10ffff}]", 1114111, false);
        contained("[^\\x{0}]", 0, false);
    }

    /** "false also if there is no such .. code point" */
    private static void containsNoSuchCodePoint() {
        int[] wrong = {-1, -2, 1114112, 1114113, 97 - 1114112, 97 + 0x200000, Integer.MIN_VALUE, Integer.MAX_VALUE};
        Scene scene = with("[^a]", "text");
        for (int c : wrong) {
            scene.refuses("contains " + c, x -> x.contains(0, c));
            scene.refuses("all contain " + c, x -> x.contains(1, c));
            scene.refuses("nothing contains " + c, x -> x.contains(2, c));
        }
    }

    private static void containsNoSuchRegister() {
        Scene scene = with("[^]", "text");
        for (int r : NO_REGISTERS) {
            scene.refuses("contains of " + r, x -> x.contains(r, 97));
            scene.refuses("contains of " + r, x -> x.contains(r, 0));
            scene.refuses("contains of " + r, x -> x.contains(r, -1));
        }
    }

    private static void containsNoStrings() {
        contained("[{ab}]", 97, false);
        contained("[{ab}]", 98, false);
        contained("[{\\x{0}\\x{0}}]", 0, false);
        contained("[b{ab}]", 98, true);
    }

    private static void containsInTheFirstAndTheLastRange() {
        Counted x = new Counted();
        Check.loadComb(x, 0, 1, 1000, 100);
        for (int c = 998; c <= 1004; c++) {
            CHECK.same("contains " + c, x.contains(0, c) ? 1 : 0, c >= 1000 && c % 2 == 0 ? 1 : 0);
        }
        for (int c = 1094; c <= 1106; c++) {
            CHECK.same("contains " + c, x.contains(0, c) ? 1 : 0, c % 2 == 0 ? 1 : 0);
        }
        for (int c = 1195; c <= 1202; c++) {
            CHECK.same("contains " + c, x.contains(0, c) ? 1 : 0, c < 1200 && c % 2 == 0 ? 1 : 0);
        }
        CHECK.no("contains 0", x.contains(0, 0));
        CHECK.no("contains the last", x.contains(0, 1114111));
    }

    private static void had(String pattern, String text, boolean due) {
        Scene scene = with(pattern, text);
        scene.answers("has", due ? 1 : 0, x -> x.has(0) ? 1 : 0);
        scene.answers("all has", text.codePointCount(0, text.length()) == 1 ? 1 : 0, x -> x.has(1) ? 1 : 0);
        scene.refuses("nothing has", x -> x.has(2));
    }

    /** "as a code point if it has one, as a string if it has two or three; false otherwise": the empty TEXT is none. */
    private static void hasTheEmptyText() {
        had("[]", "", false);
        had("[a{ab}{abc}]", "", false);
        had("[^]", "", false);
        had("[\\x{0}{\\x{0}\\x{0}}]", "", false);
    }

    private static void hasACodePoint() {
        had("[a]", "a", true);
        had("[a]", "b", false);
        had("[{ab}]", "a", false);
        had("[\\x{0}]", "\u0000", true);
        had("[\\x{10ffff}]", "\udbff\udfff", true);
        had("[^\\x{10ffff}]", "\udbff\udfff", false);
        had("[^a]", "a", false);
    }

    private static void hasAString() {
        had("[{ab}]", "ab", true);
        had("[{ab}]", "ba", false);
        had("[{ab}]", "abc", false);
        had("[{ab}]", "ac", false);
        had("[{ab}]", "bb", false);
        had("[{abc}]", "abc", true);
        had("[{abc}]", "ab", false);
        had("[{abc}]", "abd", false);
        had("[{abc}]", "adc", false);
        had("[{abc}]", "dbc", false);
        had("[a-c]", "ab", false);
        had("[a-c]", "abc", false);
        had("[{\\x{0}\\x{0}}]", "\u0000\u0000", true);
        had("[{\\x{0}\\x{0}}]", "\u0000\u0000\u0000", false);
        had("[{\\x{0}\\x{0}\\x{0}}]", "\u0000\u0000", false);
        had("[{\\x{10ffff}\\x{10ffff}\\x{10ffff}}]", "\udbff\udfff\udbff\udfff\udbff\udfff", true);
        for (String string : EIGHT.substring(1, EIGHT.length() - 1).split("\\}\\{")) {
            had("[" + EIGHT + "]", string, true);
            had("[" + EIGHT + "]", string + "a", false);
        }
    }

    /** Nothing of what was in the register before is seen. */
    private static void hasNoStringThatIsGone() {
        Scene loaded = new Scene(CHECK, "two strings, then one", x -> {
            Check.load(x, 0, "[{ab}{xyz}]");
            Check.load(x, 0, "[{ab}]");
            Check.write(x, "xyz");
        });
        loaded.refuses("has", x -> x.has(0));
        loaded.answers("span in", 0, x -> x.span(0, 0, true));
        loaded.answers("span out", 3, x -> x.span(0, 0, false));
        Scene cut = new Scene(CHECK, "two strings, one taken out", x -> {
            Check.load(x, 0, "[{ab}{xyz}]");
            Check.load(x, 1, "[{xyz}]");
            x.combine(0, 1, 2);
            x.combine(1, 1, 2);
            Check.write(x, "xyz");
        });
        for (int r = 0; r < 3; r++) {
            int register = r;
            cut.refuses("has " + r, x -> x.has(register));
        }
    }

    private static void hasALongerText() {
        had("[a-d{ab}{cd}{abc}]", "abcd", false);
        had("[a{aa}{aaa}]", "aaaa", false);
        had("[a{aa}{aaa}]", "a".repeat(60), false);
    }

    private static void hasNoSuchRegister() {
        for (int r : NO_REGISTERS) {
            with("[a]", "a").refuses("has " + r, x -> x.has(r));
            with("[{ab}]", "ab").refuses("has " + r, x -> x.has(r));
            with("[]", "").refuses("has " + r, x -> x.has(r));
        }
    }

    private static void included(String whole, String part, boolean due) {
        Scene scene = new Scene(CHECK, whole + " and " + part, x -> {
            Check.load(x, 2, whole);
            Check.load(x, 0, part);
            Check.write(x, "text");
        });
        scene.answers("includes", due ? 1 : 0, x -> x.includes(2, 0) ? 1 : 0);
    }

    /** "Whether all members of register s are in register r": all of none are in any. */
    private static void includesNothingAndAll() {
        included("[]", "[]", true);
        included("[a{ab}]", "[]", true);
        included("[]", "[a]", false);
        included("[]", "[{ab}]", false);
        included("[^]", "[]", true);
        included("[^]", "[^]", true);
        included("[]", "[^]", false);
        included("[^]", "[^a]", true);
        included("[^a]", "[^]", false);
    }

    private static void includesItself() {
        for (String pattern : new String[] {"[]", "[a]", "[^]", "[a-c{ab}]", "[" + EIGHT + "]"}) {
            Scene scene = with(pattern, "text");
            for (int r = 0; r < 3; r++) {
                int register = r;
                scene.affirms("includes itself", x -> x.includes(register, register));
            }
        }
    }

    private static void includesAtTheBounds() {
        included("[b-d]", "[b-d]", true);
        included("[b-d]", "[a-d]", false);
        included("[b-d]", "[b-e]", false);
        included("[b-d]", "[c-d]", true);
        included("[b-d]", "[b-c]", true);
        included("[b-d]", "[bd]", true);
        included("[bd]", "[b-d]", false);
        included("[b-df-h]", "[d-f]", false);
        included("[b-df-h]", "[df]", true);
        included("[^\\x{10ffff}]", "[\\x{10ffff}]", false);
        included("[^\\x{10ffff}]", "[\\x{10fffe}]", true);
        included("[^\\x{0}]", "[\\x{0}]", false);
        included("[^\\x{0}]", "[\\x{1}]", true);
    }

    private static void includesStrings() {
        included("[{ab}]", "[{ab}]", true);
        included("[{ab}]", "[{abc}]", false);
        included("[{abc}]", "[{ab}]", false);
        included("[ab]", "[{ab}]", false);
        included("[{ab}]", "[a]", false);
        included("[^]", "[{ab}]", false);
        included("[{ab}{cd}]", "[{cd}]", true);
        included("[{cd}]", "[{ab}{cd}]", false);
        included("[a{ab}]", "[b{ab}]", false);
        included("[a{ab}]", "[a{ba}]", false);
        included("[" + EIGHT + "]", "[{aa}{bd}]", true);
        included("[" + EIGHT + "]", "[{bd}{ca}]", false);
    }

    private static void includesFullOnes() {
        Scene scene = new Scene(CHECK, "a hundred and forty", x -> {
            Check.loadComb(x, 0, 2, 1000, 100);
            Check.loadComb(x, 1, 2, 5000, 40);
            Check.load(x, 2, "[" + EIGHT + "]");
            Check.join(x, 0, 2);
            Check.load(x, 2, "[\\x{3e8}-\\x{4ae}" + EIGHT + "]");
        });
        scene.refuses("one and the other", x -> x.includes(0, 1));
        scene.refuses("the other and the one", x -> x.includes(1, 0));
        scene.affirms("all between", x -> x.includes(2, 0));
        scene.refuses("only some", x -> x.includes(0, 2));
        scene.affirms("itself", x -> x.includes(0, 0));
    }

    /** "false also if r or s is no register" */
    private static void includesNoSuchRegister() {
        Scene scene = with("[]", "text");
        for (int r : NO_REGISTERS) {
            scene.refuses("all and " + r, x -> x.includes(1, r));
            scene.refuses("nothing and " + r, x -> x.includes(0, r));
            scene.refuses(r + " and nothing", x -> x.includes(r, 0));
            scene.refuses(r + " and itself", x -> x.includes(r, r));
        }
    }

    /** "How many code points are in register r" */
    private static void sizes() {
        size("[]", 0);
        size("[a]", 1);
        size("[a-c]", 3);
        size("[a-cx]", 4);
        size("[{ab}{abc}]", 0);
        size("[a{ab}]", 1);
        size("[^]", 1114112);
        size("[^a]", 1114111);
        size("[\\x{0}\\x{10ffff}]", 2);
    }

    private static void size(String pattern, int due) {
        Scene scene = with(pattern, "text");
        scene.answers("size", due, x -> x.size(0));
        scene.answers("size of all", 1114112, x -> x.size(1));
        scene.answers("size of nothing", 0, x -> x.size(2));
    }

    /** "NONE if there is no such register" */
    private static void sizeNoSuchRegister() {
        for (int r : NO_REGISTERS) {
            with("[a]", "text").answers("size " + r, -1, x -> x.size(r));
        }
    }

    /** "How many strings are in register r" */
    private static void numbersOfStrings() {
        strings("[]", 0);
        strings("[^]", 0);
        strings("[{a}]", 0);
        strings("[abc]", 0);
        strings("[{ab}]", 1);
        strings("[{ab}{ab}]", 1);
        strings("[{ab}{abc}]", 2);
        strings("[" + EIGHT.substring(4) + "]", 7);
        strings("[" + EIGHT + "]", 8);
        strings("[" + EIGHT + "{aa}]", 8);
    }

    private static void strings(String pattern, int due) {
        with(pattern, "ab").answers("strings", due, x -> x.strings(0));
    }

    private static void stringsNoSuchRegister() {
        for (int r : NO_REGISTERS) {
            with("[{ab}]", "text").answers("strings " + r, -1, x -> x.strings(r));
        }
    }

    private static void edges(String pattern, int... due) {
        Scene scene = with(pattern, "text");
        for (int k = 0; k < due.length; k++) {
            int place = k;
            scene.answers("edge " + k, due[k], x -> x.edge(0, place));
        }
        int[] wrong = {-1, due.length, due.length + 1, 199, 200, 201, 399, 400, Integer.MIN_VALUE, Integer.MAX_VALUE};
        for (int k : wrong) {
            scene.answers("edge " + k, -1, x -> x.edge(0, k));
        }
    }

    /** "for each range its first code point and the one behind its last (perhaps 1114112)" */
    private static void edgesAtTheBounds() {
        edges("[]");
        edges("[{ab}]");
        edges("[a]", 97, 98);
        edges("[ac]", 97, 98, 99, 100);
        edges("[a-c{ab}]", 97, 100);
        edges("[\\x{0}]", 0, 1);
        edges("[\\x{10fffe}]", 1114110, 1114111);
        edges("[\\x{10ffff}]", 1114111, 1114112);
        edges("[^]", 0, 1114112);
        edges("[^a]", 0, 97, 98, 1114112);
        edges("[^\\x{0}]", 1, 1114112);
        edges("[^\\x{10ffff}]", 0, 1114111);
    }

    private static void edgesOfAHundredRanges() {
        Counted x = new Counted();
        Check.loadComb(x, 0, 1, 1000, 100);
        for (int k = 0; k < 200; k++) {
            CHECK.same("edge " + k, x.edge(0, k), 1000 + k);
        }
        CHECK.same("edge 200", x.edge(0, 200), -1);
        CHECK.same("edge -1", x.edge(0, -1), -1);
        CHECK.same("edge -200", x.edge(0, -200), -1);
    }

    /** "NONE if there is none": nothing of what was there before is seen. */
    private static void edgeNoSuchOne() {
        Counted x = new Counted();
        Check.loadComb(x, 0, 1, 1000, 100);
        Check.load(x, 0, "[a]");
        CHECK.same("edge 1", x.edge(0, 1), 98);
        CHECK.same("edge 2", x.edge(0, 2), -1);
        CHECK.same("edge 199", x.edge(0, 199), -1);
        CHECK.yes("combine", x.combine(0, 0, 3));
        CHECK.same("edge 0", x.edge(0, 0), -1);
        CHECK.yes("turn", x.turn(0));
        CHECK.same("edge 1", x.edge(0, 1), 1114112);
        CHECK.same("edge 2", x.edge(0, 2), -1);
    }

    private static void edgeNoSuchRegister() {
        for (int r : NO_REGISTERS) {
            with("[a]", "text").answers("edge of " + r, -1, x -> x.edge(r, 0));
            with("[a]", "text").answers("edge of " + r, -1, x -> x.edge(r, -1));
        }
    }

    private static void nths(String pattern, int... due) {
        Scene scene = with(pattern, "text");
        for (int i = 0; i < due.length; i++) {
            int place = i;
            scene.answers("nth " + i, due[i], x -> x.nth(0, place));
        }
        int[] wrong = {
            -1, -2, due.length, due.length + 1, 1114111, 1114112, 1114113, Integer.MIN_VALUE, Integer.MAX_VALUE};
        for (int i : wrong) {
            scene.answers("nth " + i, -1, x -> x.nth(0, i));
        }
    }

    /** "Code point i (from 0, in rising order) of register r; NONE if there is none." */
    private static void nthAtTheBounds() {
        nths("[]");
        nths("[{ab}]");
        nths("[a]", 97);
        nths("[cab]", 97, 98, 99);
        nths("[xa-c{yz}]", 97, 98, 99, 120);
        nths("[\\x{0}\\x{10ffff}]", 0, 1114111);
        nths("[a-bd-e]", 97, 98, 100, 101);
    }

    private static void nthOfAll() {
        Scene all = with("[^a]", "text");
        int[] places = {0, 1, 97, 1114110, 1114111};
        for (int i : places) {
            all.answers("nth " + i + " of all", i, x -> x.nth(1, i));
        }
        all.answers("nth behind all", -1, x -> x.nth(1, 1114112));
        all.answers("nth before the gap", 96, x -> x.nth(0, 96));
        all.answers("nth behind the gap", 98, x -> x.nth(0, 97));
        all.answers("the last", 1114111, x -> x.nth(0, 1114110));
        all.answers("behind the last", -1, x -> x.nth(0, 1114111));
        Counted x = new Counted();
        Check.loadComb(x, 0, 1, 1000, 100);
        for (int i = 0; i < 100; i++) {
            CHECK.same("nth " + i, x.nth(0, i), 1000 + 2 * i);
        }
        CHECK.same("nth 100", x.nth(0, 100), -1);
    }

    private static void nthNoSuchOne() {
        Scene scene = with("[^]", "text");
        int[] wrong = {-1, -2, -1114112, 1114112, 1114113, Integer.MIN_VALUE, Integer.MAX_VALUE};
        for (int i : wrong) {
            scene.answers("nth " + i, -1, x -> x.nth(0, i));
            scene.answers("nth " + i + " of nothing", -1, x -> x.nth(2, i));
        }
        Scene smaller = new Scene(CHECK, "four ranges, then one", x -> {
            Check.load(x, 0, "[acegx-z]");
            Check.load(x, 0, "[b]");
        });
        smaller.answers("nth 0", 98, x -> x.nth(0, 0));
        smaller.answers("nth 1", -1, x -> x.nth(0, 1));
        smaller.answers("nth 2", -1, x -> x.nth(0, 2));
        smaller.answers("size", 1, x -> x.size(0));
    }

    private static void nthNoSuchRegister() {
        for (int r : NO_REGISTERS) {
            with("[a]", "text").answers("nth of " + r, -1, x -> x.nth(r, 0));
            with("[a]", "text").answers("nth of " + r, -1, x -> x.nth(r, -1));
        }
    }
}
