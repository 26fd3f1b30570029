/** Promise 6: apply, and the terms of patterns. */
public final class PatternTest {

    private static final Check CHECK = new Check();

    public static void main(String[] args) {
        chars();
        escapes();
        ranges();
        hyphens();
        spaces();
        stringExpressions();
        properties();
        names();
        operations();
        turnedBrackets();
        stringsLimit();
        depthLimit();
        wholeText();
        registers();
        nothingStaysBehind();
        CHECK.finish();
    }

    private static void accepted(String pattern, String want) {
        Counted x = new Counted();
        CHECK.yes("apply " + pattern, Check.apply(x, 1, pattern));
        CHECK.same("text behind " + pattern, Check.text(x), pattern);
        CHECK.same("print of " + pattern, Check.printed(x, 1), want);
        CHECK.same("other registers", x.size(0) + x.size(2) + x.strings(0) + x.strings(2), 0);
    }

    private static void hasEdges(String pattern, String want) {
        Counted x = new Counted();
        CHECK.yes("apply " + pattern, Check.apply(x, 2, pattern));
        CHECK.same("edges of " + pattern, Check.edges(x, 2), want);
    }

    private static void refused(String pattern) {
        Counted x = new Counted();
        Check.load(x, 0, "[q-s{uv}]");
        CHECK.no("apply " + pattern, Check.apply(x, 0, pattern));
        CHECK.same("text behind " + pattern, Check.text(x), pattern);
        CHECK.same("register behind " + pattern, Check.printed(x, 0), "[q-s{uv}]");
    }

    private static void chars() {
        accepted("[]", "[]");
        accepted("[a]", "[a]");
        accepted("[ba]", "[ab]");
        accepted("[aa]", "[a]");
        accepted("[cab]", "[a-c]");
        accepted("[a:]", "[\\:a]");
        accepted("[!\"#$%'()*+,./;<=>?@_`|~]", "[!-%'-,./;-@_`|~]");
        hasEdges("[\u0001\u00e5\ud83d\ude00]", "1 2 229 230 128512 128513 strings 0");
        hasEdges("[\ud800]", "55296 55297 strings 0");
        for (String sign : new String[] {"]", "{", "}", "&", "^", "\\"}) {
            refused("[a" + sign + "]");
            refused("[a" + sign + "b]");
            refused("[ " + sign + "]");
        }
        refused("[a");
        refused("[");
        refused("]");
        refused("");
        refused("a");
        refused("-");
    }

    private static void escapes() {
        accepted("[\\n\\t]", "[\\x{9}\\x{a}]");
        accepted("[\\[\\]\\{\\}\\-\\&\\^\\\\\\:]", "[\\&\\-\\:\\[-\\^\\{\\}]");
        accepted("[\\ ]", "[\\x{20}]");
        accepted("[\\1\\!\\_]", "[!1_]");
        hasEdges("[\\\u00e5]", "229 230 strings 0");
        hasEdges("[\\\ud83d\ude00]", "128512 128513 strings 0");
        accepted("[\\u0041]", "[A]");
        accepted("[\\u00411]", "[1A]");
        hasEdges("[\\uaBcD\\uFfFf]", "43981 43982 65535 65536 strings 0");
        accepted("[\\x{0}]", "[\\x{0}]");
        accepted("[\\x{61}\\x{000062}]", "[ab]");
        for (String digit : "0 1 2 3 4 5 6 7 8 9 a b c d e f A B C D E F".split(" ")) {
            int value = Integer.parseInt("4" + digit, 16);
            hasEdges("[\\x{4" + digit + "}]", value + " " + (value + 1) + " strings 0");
            hasEdges("[\\u004" + digit + "]", value + " " + (value + 1) + " strings 0");
        }
        for (String digit : "g G / : @ ` - \u0661 \uff11".split(" ")) {
            refused("[\\x{4" + digit + "}]");
            refused("[\\u004" + digit + "]");
        }
        hasEdges("[\\x{10FFff}]", "1114111 1114112 strings 0");
        hasEdges("[\\ud83d\\ude00]", "55357 55358 56832 56833 strings 0");
        for (char c = 'A'; c <= 'z'; c++) {
            if (Character.isLetter(c) && "ntuxpP".indexOf(c) < 0) {
                refused("[\\" + c + "]");
            }
        }
        String[] wrong = {
            "[\\", "[\\]", "[\\u]", "[\\u004]", "[\\u004g]", "[\\u 0041]", "[\\u{0041}]", "[\\u0041", "[\\x]",
            "[\\x{}]", "[\\x{0000061}]", "[\\x{110000}]", "[\\x{ffffff}]", "[\\x{61]", "[\\x61}]", "[\\x{ 61}]",
            "[\\x{61 }]", "[\\x {61}]", "[\\x{6g}]", "[\\x{", "[\\ n]x", "\\n", "\\x{61}"};
        for (String pattern : wrong) {
            refused(pattern);
        }
    }

    private static void ranges() {
        accepted("[a-z]", "[a-z]");
        accepted("[a-a]", "[a]");
        accepted("[a-b]", "[ab]");
        accepted("[a-cd-f]", "[a-f]");
        accepted("[a-ec-g]", "[a-g]");
        accepted("[g-hb-c]", "[bcgh]");
        accepted("[\\x{61}-\\u0063]", "[a-c]");
        accepted("[\\t-\\n]", "[\\x{9}\\x{a}]");
        accepted("[!-\\-]", "[!-\\-]");
        accepted("[\\--0]", "[\\--0]");
        accepted("[\\--\\-]", "[\\-]");
        accepted("[A-\\]]", "[A-\\]]");
        accepted("[ :-@]", "[\\:-@]");
        hasEdges("[\\x{0}-\\x{10ffff}]", "0 1114112 strings 0");
        String[] wrong = {
            "[z-a]", "[b-a]", "[\\n-\\t]", "[a-b-c]", "[a--]", "[a--b]", "[a-{b}]", "[a-[b]]", "[a-\\p{any}]",
            "[a-&[b]]", "[a-^]", "[a-", "[a-z-[b]]", "[a-\\]", "[{a}-z]", "[a-}]"};
        for (String pattern : wrong) {
            refused(pattern);
        }
    }

    private static void hyphens() {
        accepted("[-]", "[\\-]");
        accepted("[--]", "[\\-]");
        accepted("[-a]", "[\\-a]");
        accepted("[a-]", "[\\-a]");
        accepted("[-a-c]", "[\\-a-c]");
        accepted("[a-c-]", "[\\-a-c]");
        accepted("[-a-]", "[\\-a]");
        accepted("[-[a]]", "[\\-a]");
        accepted("[-\\p{digit}]", "[\\-0-9]");
        accepted("[-{ab}]", "[\\-{ab}]");
        accepted("[{ab}-]", "[\\-{ab}]");
        accepted("[[a]-]", "[\\-a]");
        accepted("[[a-c]-[b]-]", "[\\-ac]");
        accepted("[\\p{digit}-]", "[\\-0-9]");
        accepted("[[-]]", "[\\-]");
        String[] wrong = {
            "[---]", "[--a]", "[-a-b-c]", "[- - a]", "[[a]--]", "[[a]--[b]]", "[{ab}-{c}]", "[{ab}-c]", "[{ab}-[c]]",
            "[[a]-b]", "[[a]-{b}]", "[-", "[[a]-"};
        for (String pattern : wrong) {
            refused(pattern);
        }
    }

    private static void spaces() {
        accepted("[ ]", "[]");
        accepted("[   a   b   ]", "[ab]");
        accepted("[ a - c ]", "[a-c]");
        accepted("[a- c]", "[a-c]");
        accepted("[a -c]", "[a-c]");
        accepted("[ - ]", "[\\-]");
        accepted("[ - - ]", "[\\-]");
        accepted("[ - a - ]", "[\\-a]");
        accepted("[^ \\P{digit} ]", "[0-9]");
        accepted("[ [ a b ] & [ b c ] ]", "[b]");
        accepted("[ [ a b ]  -  [ b c ] ]", "[a]");
        accepted("[ { a b } {  c  } ]", "[c{ab}]");
        accepted("[{ \\  a }]", "[{\\x{20}a}]");
        accepted("[ : a ]", "[\\:a]");
        accepted("[a\\  ]", "[\\x{20}a]");
        String[] wrong = {
            " [a]", "[a] ", " ", "  ", " \\p{any}", "\\p{any} ", "[ ^a]", "[\\ p{digit}]", "[\\p {any}]", "[a\\ ",
            "[ :any:]\\", "[:any: ]", "[: ^any:]", "[ a - ", "[[a] & ]", "[ [ :any: ] ] "};
        for (String pattern : wrong) {
            refused(pattern);
        }
    }

    private static void stringExpressions() {
        accepted("[{a}]", "[a]");
        accepted("[{ab}]", "[{ab}]");
        accepted("[{abc}]", "[{abc}]");
        accepted("[{ab}{ab}]", "[{ab}]");
        accepted("[{ba}{ab}{a}]", "[a{ab}{ba}]");
        accepted("[{\\n\\x{61}}]", "[{\\x{a}a}]");
        accepted("[{\\}\\{\\-}]", "[{\\}\\{\\-}]");
        accepted("[{::}]", "[{\\:\\:}]");
        accepted("[a{bc}d]", "[ad{bc}]");
        accepted("[{aa}{aaa}]", "[{aa}{aaa}]");
        String[] wrong = {
            "[{}]", "[{ }]", "[{abcd}]", "[{a-c}]", "[{a&b}]", "[{^a}]", "[{[a]}]", "[{a{b}}]", "[{\\p{any}}]",
            "[{ab]", "[{ab", "[ab}]", "{ab}", "{a}", "[{a]}", "[{[:any:]}]", "[{-}]", "[{a,b}", "[{ab{]", "[}ab}]"};
        for (String pattern : wrong) {
            refused(pattern);
        }
    }

    private static void properties() {
        accepted("\\p{digit}", "[0-9]");
        accepted("[:digit:]", "[0-9]");
        accepted("[\\p{digit}]", "[0-9]");
        accepted("[[:digit:]]", "[0-9]");
        accepted("[a[:digit:]b]", "[0-9ab]");
        accepted("[^\\P{digit}]", "[0-9]");
        accepted("[^[:^digit:]]", "[0-9]");
        hasEdges("\\P{digit}", "0 48 58 1114112 strings 0");
        hasEdges("[:^digit:]", "0 48 58 1114112 strings 0");
        hasEdges("\\P{any}", "strings 0");
        hasEdges("[:^ascii:]", "128 1114112 strings 0");
        String[] wrong = {
            "[:digit]", "[:digit:", "[digit:]x", "[:]", "[::]", "[:^:]", "[:^^digit:]", "[:digit^:]", "[:a]", "[a[:]]",
            "[[:a-c]]", "\\p{}", "\\P{}", "\\p{ }", "\\p{digit", "\\pdigit}", "\\p", "\\P", "\\p{", "\\p{^digit}",
            "\\p{digit}}", "\\p{digit}\\p{digit}", "[:digit:]]", "[\\p]", "[\\pa]", "[\\p{:digit:}]", "[:^",
            "[:", "[:digit:}", "\\p{digit:]"};
        for (String pattern : wrong) {
            refused(pattern);
        }
    }

    private static void names() {
        hasEdges("\\p{any}", "0 1114112 strings 0");
        hasEdges("\\p{ascii}", "0 128 strings 0");
        hasEdges("\\p{digit}", "48 58 strings 0");
        hasEdges("\\p{hexdigit}", "48 58 65 71 97 103 strings 0");
        hasEdges("\\p{upper}", "65 91 192 215 216 223 strings 0");
        hasEdges("\\p{lower}", "97 123 223 247 248 256 strings 0");
        hasEdges("\\p{letter}",
            "65 91 97 123 170 171 181 182 186 187 192 215 216 247 248 256 880 1024 strings 0");
        hasEdges("\\p{greek}", "880 1024 strings 0");
        hasEdges("\\p{space}", "9 14 32 33 133 134 160 161 strings 0");
        hasEdges("\\p{surrogate}", "55296 57344 strings 0");
        accepted("\\p{Hex_Digit}", "[0-9A-Fa-f]");
        accepted("\\p{ -_h-E x_DIGI t__}", "[0-9A-Fa-f]");
        accepted("[:DIGIT:]", "[0-9]");
        accepted("[: digit :]", "[0-9]");
        accepted("[:-digit-:]", "[0-9]");
        String[] wrong = {
            "\\p{digits}", "\\p{digi}", "\\p{Alpha}", "\\p{digit1}", "\\p{di.git}", "\\p{\\x{64}igit}", "\\p{asciii}",
            "\\p{anyany}", "\\p{_}", "\\p{d\u0131git}", "\\p{d\u0131git }", "\\p{\u212aletter}", "[:an\ny:]",
            "\\p{[any]}", "\\p{@ny}", "\\p{hexdigitdigit}", "\\p{bny}", "[:tigit:]"};
        for (String pattern : wrong) {
            refused(pattern);
        }
    }

    private static void operations() {
        accepted("[[a-f]&[c-h]]", "[c-f]");
        accepted("[[a-f]-[c-d]]", "[abef]");
        accepted("[[a-f]&[c-h]-[d]]", "[cef]");
        accepted("[[a-f]-[d]&[c-h]]", "[cef]");
        accepted("[xyz[a-f]&[f-y]]", "[fxy]");
        accepted("[xyz[a]-[xyz]]", "[a]");
        accepted("[[a]&[b]c]", "[c]");
        accepted("[[a]&[b][c]-[c]]", "[]");
        accepted("[\\p{ascii}&\\p{digit}]", "[0-9]");
        accepted("[[:ascii:]-\\P{digit}]", "[0-9]");
        accepted("[[{ab}{cd}e]&[{ab}]]", "[{ab}]");
        accepted("[[{ab}{cd}e]-[{ab}]]", "[e{cd}]");
        accepted("[{ab}{cd}e[]-[{ab}e]]", "[{cd}]");
        accepted("[{ab}[x]&\\p{any}]", "[x]");
        accepted("[[{ab}][{abc}]&[{ab}{cd}]]", "[{ab}]");
        accepted("[[]&[]]", "[]");
        String[] wrong = {
            "[&[a]]", "[a&[b]]", "[{ab}&[b]]", "[[a]&b]", "[[a]&{bc}]", "[[a]&]", "[[a]&&[b]]", "[[a]&-[b]]",
            "[[a]-&[b]]", "[a-c&[b]]", "[-&[a]]", "[^&[a]]", "[[a]b&[c]]", "[[a]b-[c]]", "[[a]{b}-[c]]", "[a]&[b]",
            "[a]-[b]", "[[a]& ", "[[a]&[b]&]"};
        for (String pattern : wrong) {
            refused(pattern);
        }
    }

    private static void turnedBrackets() {
        hasEdges("[^]", "0 1114112 strings 0");
        hasEdges("[^ ]", "0 1114112 strings 0");
        hasEdges("[^a]", "0 97 98 1114112 strings 0");
        hasEdges("[^\\x{0}-a]", "98 1114112 strings 0");
        hasEdges("[^a-\\x{10ffff}]", "0 97 strings 0");
        hasEdges("[^-]", "0 45 46 1114112 strings 0");
        hasEdges("[^-a]", "0 45 46 97 98 1114112 strings 0");
        hasEdges("[^-[a]]", "0 45 46 97 98 1114112 strings 0");
        hasEdges("[^:]", "0 58 59 1114112 strings 0");
        hasEdges("[^[^a]]", "97 98 strings 0");
        hasEdges("[^[a-f]-[b]]", "0 97 98 99 103 1114112 strings 0");
        hasEdges("[^\\p{any}]", "strings 0");
        hasEdges("[b[^a]&[a-c]]", "98 100 strings 0");
        hasEdges("[^[{ab}c]-[{ab}]]", "0 99 100 1114112 strings 0");
        hasEdges("[^{ab}[]&\\p{any}]", "0 1114112 strings 0");
        hasEdges("[^{a}]", "0 97 98 1114112 strings 0");
        hasEdges("[{ab}[^c]]", "0 99 100 1114112 strings 1");
        String[] wrong = {
            "[^{ab}]", "[^[{ab}]]", "[a[^{ab}]]", "[[^{ab}]-[^]]", "[^^]", "[^^a]", "[a^]", "[^", "^[a]", "[^[a]",
            "[^{ab}]&[]"};
        for (String pattern : wrong) {
            refused(pattern);
        }
    }

    private static void stringsLimit() {
        String eight = "{aa}{ab}{ac}{ad}{ba}{bb}{bc}{bd}";
        accepted("[" + eight + "]", "[" + eight + "]");
        accepted("[" + eight + "{aa}{b}]", "[b" + eight + "]");
        accepted("[[" + eight + "]-[{aa}]{ca}]", "[" + eight.substring(4) + "{ca}]");
        accepted("[" + eight + "[{aa}{bd}]]", "[" + eight + "]");
        refused("[" + eight + "{ca}]");
        refused("[" + eight + "[{ca}]]");
        refused("[" + eight + "{ca}[]-[{ca}]]");
        refused("[" + eight + "{ca}[]&[]]");
        refused("[[" + eight + "{ca}]&[]]");
        refused("[[" + eight + "][{ca}]-[{ca}]]");
        refused("[[a]-[" + eight + "{ca}]]");
        refused("[[{aa}{ab}{ac}{ad}{ae}][{ba}{bb}{bc}{bd}]]");
        refused("[^[" + eight + "{ca}]-[^]]");
    }

    private static void depthLimit() {
        accepted("[[[[[a]]]]]", "[a]");
        accepted("[[[[[\\p{digit}]]]]]", "[0-9]");
        accepted("[[[[[[:digit:]]]]]]", "[0-9]");
        accepted("[[[[[a{bc}]]]]b[[[[c]]]]]", "[a-c{bc}]");
        accepted("[[a]-[[[[a]]]]]", "[]");
        accepted("[^[^[^[^[^a]]]]]", "[\\x{0}-`b-\\x{10ffff}]");
        refused("[[[[[[a]]]]]]");
        refused("[[[[[[]]]]]]");
        refused("[[[[[a[]]]]]]");
        refused("[[a]-[[[[[a]]]]]]");
        refused("[[[[[[[a]]]]]]]");
    }

    private static void wholeText() {
        refused("[a]b");
        refused("b[a]");
        refused("[a][b]");
        refused("[a]]");
        refused("[[a]");
        refused("[a]\\p{any}");
        refused("\\p{any}[a]");
        refused("\\p{any}-[a]");
        String[] tails = {
            "^", "]", "}", "{", "&", "-", "[", "[:", "[:any", "[:x:]", "\\", "\\q", "\\u1", "\\x{", "\\x{110000}",
            "\\p{", "\\p{x}", "\\p", " ", "a", "\\n"};
        for (String tail : tails) {
            refused("[a]" + tail);
            refused("\\p{digit}" + tail);
            refused("[:digit:]" + tail);
        }
        String sixty = "[" + "a".repeat(58) + "]";
        accepted(sixty, "[a]");
        refused("[" + "a".repeat(59));
        refused("[".repeat(60));
        refused("-".repeat(60));
        refused("\\".repeat(60));
    }

    private static void registers() {
        Counted x = new Counted();
        Check.write(x, "[a-c{xy}]");
        int[] wrong = {-1, 3, Integer.MIN_VALUE, Integer.MAX_VALUE};
        for (int r : wrong) {
            CHECK.no("apply " + r, x.apply(r));
            CHECK.same("text behind apply " + r, Check.text(x), "[a-c{xy}]");
        }
        for (int r = 0; r < 3; r++) {
            CHECK.yes("apply " + r, x.apply(r));
            CHECK.same("edges " + r, Check.edges(x, r), "97 100 strings 1");
        }
        Check.load(x, 1, "[z]");
        CHECK.same("what was there goes", Check.edges(x, 1), "122 123 strings 0");
        CHECK.same("register 0 stays", Check.edges(x, 0), "97 100 strings 1");
        CHECK.same("register 2 stays", Check.edges(x, 2), "97 100 strings 1");
    }

    /** What an earlier pattern, whole or broken off, was about must not be seen in a later one. */
    private static void nothingStaysBehind() {
        String[] before = {
            "[[a]]", "[[a]&", "[[[[[a", "[^a", "[^{ab}]", "[[a][b]-", "[x{ab}[y]", "[[[a]]&[[a]]]", "\\P{any}", "[a]b",
            "[[[[[[a]]]]]]", "[[a]-[b", "[[[a]&[b", "[[[a]-[b]q-"};
        String[] wrong = {"[&[a]]", "[[&[a]]]", "[[&[a]", "[a]]", "]", "&[a]", "-[a]]", "[[-&[a]]]", "[[{ab}-[a]]]"};
        for (String first : before) {
            Counted x = new Counted();
            Check.apply(x, 0, first);
            for (String pattern : wrong) {
                CHECK.no(pattern + " behind " + first, Check.apply(x, 1, pattern));
                Check.apply(x, 0, first);
            }
            CHECK.yes("[-[b]{cd}] behind " + first, Check.apply(x, 1, "[-[b]{cd}]"));
            CHECK.same("[-[b]{cd}] behind " + first, Check.printed(x, 1), "[\\-b{cd}]");
            Check.apply(x, 0, first);
            CHECK.yes("[[-[c]]] behind " + first, Check.apply(x, 1, "[[-[c]]]"));
            CHECK.same("[[-[c]]] behind " + first, Check.printed(x, 1), "[\\-c]");
        }
        refused("[[[a]][&[a]]]");
        refused("[[a[b]][&[b]]]");
        accepted("[[a[b]][-[c]]]", "[\\-a-c]");
        accepted("[[xyz]&[-[x]]]", "[x]");
    }
}
