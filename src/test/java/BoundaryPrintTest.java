/** The boundary cases of promise 7: print. */
public final class BoundaryPrintTest {

    private static final Check CHECK = new Check();

    public static void main(String[] args) {
        noMembers();
        rangesOfOneTwoAndMore();
        rangesAtTheBounds();
        codePointsForThemselves();
        codePointsWithBackslash();
        hexDigits();
        stringOrder();
        stringForms();
        sixty();
        sixtyOne();
        sixtyOneByTheLastSign();
        sixtyOneInAString();
        farTooLong();
        noSuchRegister();
        overAnyText();
        registersStay();
        CHECK.finish();
    }

    private static Scene with(String pattern) {
        return new Scene(CHECK, "print of " + pattern, x -> {
            for (int r = 0; r < 3; r++) {
                Check.load(x, r, pattern);
            }
            Check.write(x, "the old TEXT");
        });
    }

    /** The TEXT becomes the one that is due, its length is answered, and all registers stay; it is a pattern again. */
    private static void prints(String pattern, String due) {
        Scene scene = with(pattern);
        for (int r = 0; r < 3; r++) {
            int register = r;
            scene.writes("print " + r, due, due.length(), x -> x.print(register));
        }
        scene.writes("print and apply", due, 1, x -> x.print(0) == x.length() && x.apply(0) ? 1 : 0);
    }

    /** "for no members just [ and ]" */
    private static void noMembers() {
        prints("[]", "[]");
        prints("\\P{any}", "[]");
        prints("[[a{ab}]-[a{ab}]]", "[]");
    }

    /** "A range of one code point is that, one of two both of them, a longer one the first, - and the last" */
    private static void rangesOfOneTwoAndMore() {
        prints("[a]", "[a]");
        prints("[ab]", "[ab]");
        prints("[abc]", "[a-c]");
        prints("[abcd]", "[a-d]");
        prints("[acd]", "[acd]");
        prints("[abd]", "[abd]");
        prints("[acdfgh]", "[acdf-h]");
        prints("[fghcda]", "[acdf-h]");
        prints("[\\-.]", "[\\-.]");
        prints("[,-.]", "[,-.]");
        prints("[,\\-]", "[,\\-]");
        prints("[+-\\-]", "[+-\\-]");
        prints("[\\--/]", "[\\--/]");
    }

    private static void rangesAtTheBounds() {
        prints("[\\x{0}]", "[\\x{0}]");
        prints("[\\x{0}\\x{1}]", "[\\x{0}\\x{1}]");
        prints("[\\x{0}-\\x{2}]", "[\\x{0}-\\x{2}]");
        prints("[\\x{10ffff}]", "[\\x{10ffff}]");
        prints("[\\x{10fffe}\\x{10ffff}]", "[\\x{10fffe}\\x{10ffff}]");
        prints("[\\x{10fffd}-\\x{10ffff}]", "[\\x{10fffd}-\\x{10ffff}]");
        prints("[^]", "[\\x{0}-\\x{10ffff}]");
        prints("[^a]", "[\\x{0}-`b-\\x{10ffff}]");
    }

    /** "A code point 33 .. 126 is itself" */
    private static void codePointsForThemselves() {
        prints("[!]", "[!]");
        prints("[~]", "[~]");
        prints("[\\ ]", "[\\x{20}]");
        prints("[\\x{7f}]", "[\\x{7f}]");
        prints("[\\ !]", "[\\x{20}!]");
        prints("[~\\x{7f}]", "[~\\x{7f}]");
        for (int c = 33; c <= 126; c++) {
            String itself = Character.toString(c);
            if ("[]{}-&^\\:".indexOf(c) < 0) {
                prints("[" + itself + "]", "[" + itself + "]");
            }
        }
    }

    /** "with \ before it if it is one of [ ] { } - & ^ \ and :" */
    private static void codePointsWithBackslash() {
        String signs = "[]{}-&^\\:";
        for (int k = 0; k < signs.length(); k++) {
            String sign = "\\" + signs.charAt(k);
            prints("[" + sign + "]", "[" + sign + "]");
            prints("[{a" + sign + "}]", "[{a" + sign + "}]");
            prints("[^\\x{0}-\\" + signs.charAt(k) + "]", "[" + next(signs.charAt(k)) + "-\\x{10ffff}]");
        }
        prints("[\\&\\-\\:\\[\\\\\\]\\^\\{\\}]", "[\\&\\-\\:\\[-\\^\\{\\}]");
    }

    private static String next(char c) {
        return ("[]{}-&^\\:".indexOf(c + 1) < 0 ? "" : "\\") + (char) (c + 1);
    }

    /** "any other is \ x { , its hex digits, no 0 in front, letters small, and } (0 is the digit 0)" */
    private static void hexDigits() {
        int[] codes = {
            0, 1, 9, 10, 15, 16, 31, 32, 127, 128, 159, 160, 255, 256, 2748, 4095, 4096, 43981, 55296, 57343, 65535,
            65536, 703710, 1048575, 1048576, 1114111};
        for (int c : codes) {
            String form = "\\x{" + Integer.toHexString(c) + "}";
            prints("[\\" + Character.toString(c) + "]", "[" + form + "]");
            prints("[{\\" + Character.toString(c) + "a}]", "[{" + form + "a}]");
        }
        prints("[\\x{00000a}\\x{00ABCD}]", "[\\x{a}\\x{abcd}]");
    }

    /** "the strings in rising order (by their first code points that differ; what ends is before what goes on)" */
    private static void stringOrder() {
        prints("[{bb}{ba}{ab}{aa}]", "[{aa}{ab}{ba}{bb}]");
        prints("[{abc}{ab}]", "[{ab}{abc}]");
        prints("[{ab\\x{0}}{ab}]", "[{ab}{ab\\x{0}}]");
        prints("[{ac}{abz}]", "[{abz}{ac}]");
        prints("[{b\\x{0}}{a\\x{10ffff}}]", "[{a\\x{10ffff}}{b\\x{0}}]");
        prints("[{aab}{aaa}]", "[{aaa}{aab}]");
        prints("[{\\x{10ffff}a}{\\x{0}z}]", "[{\\x{0}z}{\\x{10ffff}a}]");
        prints("[{\\x{10000}a}{\\x{ffff}a}]", "[{\\x{ffff}a}{\\x{10000}a}]");
        prints("[{zz}{zzz}a]", "[a{zz}{zzz}]");
        prints("[{aa}z]", "[z{aa}]");
    }

    private static void stringForms() {
        prints("[{ab}]", "[{ab}]");
        prints("[{abc}]", "[{abc}]");
        prints("[{a}]", "[a]");
        prints("[{\\x{0}\\x{0}\\x{0}}{\\x{0}\\x{0}}]", "[{\\x{0}\\x{0}}{\\x{0}\\x{0}\\x{0}}]");
        prints("[{\\x{10ffff}\\x{10ffff}\\x{10ffff}}]", "[{\\x{10ffff}\\x{10ffff}\\x{10ffff}}]");
        prints("[{\\ \\ }]", "[{\\x{20}\\x{20}}]");
        prints("[{aa}{ab}{ac}{ad}{ba}{bb}{bc}{bd}]", "[{aa}{ab}{ac}{ad}{ba}{bb}{bc}{bd}]");
    }

    private static Scene joined(String... patterns) {
        return new Scene(CHECK, String.join(" ", patterns), x -> {
            for (String pattern : patterns) {
                Check.load(x, 1, pattern);
                Check.join(x, 0, 1);
            }
            Check.write(x, "[the old TEXT");
        });
    }

    /** "NONE, refused, if .. the pattern would have more than 60 code points": 60 are not more. */
    private static void sixty() {
        String letters = "[!#%')+/13579;=?ACEGIKMOQSUWY_acegikmoqsuwy|~{ab}{abc}{abd}]";
        joined(letters).writes("print of letters", letters, 60, x -> x.print(0));
        String codes = "[acegikmo\\x{100001}\\x{100003}\\x{100005}\\x{100007}\\x{100009}]";
        joined(codes).writes("print of large ones", codes, 60, x -> x.print(0));
        String ranges = "[a-ce-gi-km-oq-suw\\x{100000}-\\x{100010}\\x{100020}\\x{100030}]";
        joined(ranges).writes("print of ranges", ranges, 60, x -> x.print(0));
        String fiftyNine = "[acegikm\\x{100001}\\x{100003}\\x{100005}\\x{100007}\\x{100009}]";
        joined(fiftyNine).writes("print of one less", fiftyNine, 59, x -> x.print(0));
    }

    /** What print answers (or -2 if the TEXT has another length); the TEXT is the old one then. */
    private static int printedAndPutBack(Counted x, int most) {
        int length = x.print(0);
        boolean same = x.length() == length && length <= most;
        Check.write(x, "[the old TEXT");
        return same ? length : -2;
    }

    private static void sixtyOne() {
        joined("[acegikmo\\x{100001}\\x{100003}\\x{100005}\\x{100007}\\x{100009}]", "[q]")
            .answers("print of one more", -1, x -> x.print(0));
        String letters = "[!#%')+/13579;=?ACEGIKMOQSUWY_acegikmoqsuwy|~{ab}{abc}{abd}]";
        joined(letters, "[@]").answers("print with one more", -1, x -> x.print(0));
        joined(letters, "[(]").answers("three in place of two", -1, x -> x.print(0));
        joined(letters, "[BD]").answers("three in place of three", 60, x -> printedAndPutBack(x, 60));
        joined(letters, "[{zz}]").answers("print with a string more", -1, x -> x.print(0));
    }

    /** The sixty-first is the closing bracket, the last sign of a code point, or the last code point of a range. */
    private static void sixtyOneByTheLastSign() {
        String fifty = "[\\x{100001}\\x{100003}\\x{100005}\\x{100007}\\x{100009}]";
        joined(fifty, "[acegikmo]").answers("all of 60", 60, x -> printedAndPutBack(x, 60));
        joined(fifty, "[acegikmoq]").answers("the bracket is one too many", -1, x -> x.print(0));
        joined(fifty, "[acegik-m]").answers("all of 60", 60, x -> printedAndPutBack(x, 60));
        joined(fifty, "[acegi-mo]").answers("all of 60", 60, x -> printedAndPutBack(x, 60));
        joined(fifty, "[acegik-mo]").answers("the bracket is one too many", -1, x -> x.print(0));
        joined(fifty, "[acegikmoqs]").answers("two too many", -1, x -> x.print(0));
        joined(fifty, "[aceg\\^i]").answers("the backslash counts", 59, x -> printedAndPutBack(x, 60));
        joined(fifty, "[acegikm\\^]").answers("the backslash is one too many", -1, x -> x.print(0));
        joined(fifty, "[acegikm\\&]").answers("the backslash is one too many", -1, x -> x.print(0));
    }

    private static void sixtyOneInAString() {
        String fifty = "[\\x{100001}\\x{100003}\\x{100005}\\x{100007}\\x{100009}]";
        joined(fifty, "[aceg{xy}]").answers("all of 60", 60, x -> printedAndPutBack(x, 60));
        joined(fifty, "[aceg{xyz}]").answers("the bracket is one too many", -1, x -> x.print(0));
        joined(fifty, "[acegi{xyz}]").answers("two too many", -1, x -> x.print(0));
        joined(fifty, "[ace{xyz}]").answers("all of 60", 60, x -> printedAndPutBack(x, 60));
        joined(fifty, "[{xy}{yz}]").answers("all of 60", 60, x -> printedAndPutBack(x, 60));
        joined(fifty, "[{xy}{yz}{zz}]").answers("a string too many", -1, x -> x.print(0));
        joined(fifty, "[{xy}{x\\]}]").answers("the backslash is one too many", -1, x -> x.print(0));
    }

    private static void farTooLong() {
        Scene scene = new Scene(CHECK, "full", x -> {
            Check.loadComb(x, 0, 1, 1000, 100);
            Check.load(x, 1, "[{aa}{ab}{ac}{ad}{ba}{bb}{bc}{bd}]");
            Check.join(x, 0, 1);
            Check.write(x, "[the old TEXT");
        });
        scene.answers("print of a hundred ranges and eight strings", -1, x -> x.print(0));
        joined("[acegikmoqsuwyACEGIKMOQSUWY{aaa}{aab}{aac}{aad}{baa}]", "[13579;{bab}{bac}{bad}]")
            .answers("print of eight strings and more", -1, x -> x.print(0));
    }

    /** "NONE, refused, if there is no such register" */
    private static void noSuchRegister() {
        int[] wrong = {-1, 3, 4, -2, Integer.MIN_VALUE, Integer.MAX_VALUE};
        for (int r : wrong) {
            with("[a{ab}]").answers("print " + r, -1, x -> x.print(r));
            new Scene(CHECK, "new", x -> { }).answers("print " + r, -1, x -> x.print(r));
        }
    }

    /** "The TEXT becomes a pattern of register r": nothing of the old one is left, however long it was. */
    private static void overAnyText() {
        for (String old : new String[] {"", "x", "[a]", "x".repeat(60)}) {
            Scene scene = new Scene(CHECK, "print over " + old, x -> {
                Check.load(x, 0, "[a-z{ab}]");
                Check.write(x, old);
            });
            scene.writes("print", "[a-z{ab}]", 9, x -> x.print(0));
            scene.writes("print of no members", "[]", 2, x -> x.print(2));
            scene.writes("at behind the end", "[]", -1, x -> x.print(2) == 2 ? x.at(2) : -2);
            scene.writes("print twice", "[]", 2, x -> x.print(0) == 9 ? x.print(1) : -2);
        }
    }

    private static void registersStay() {
        Scene scene = new Scene(CHECK, "three registers", x -> {
            Check.load(x, 0, "[a-c]");
            Check.load(x, 1, "[^x]");
            Check.load(x, 2, "[{ab}]");
        });
        scene.writes("print 0", "[a-c]", 5, x -> x.print(0));
        scene.writes("print 1", "[\\x{0}-wy-\\x{10ffff}]", 21, x -> x.print(1));
        scene.writes("print 2", "[{ab}]", 6, x -> x.print(2));
    }
}
