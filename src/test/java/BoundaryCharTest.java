/** The boundary cases of CHAR, NAME, PROPERTY, STRING EXPRESSION and of the spaces, as apply shows them. */
public final class BoundaryCharTest {

    private static final Check CHECK = new Check();
    private static final Patterns PATTERNS = new Patterns(CHECK);
    private static final String SIGNS = "[]{}-&^\\ ";
    private static final String LETTERS = "abcdefghijklmnopqrstuvwxyzABCDEFGHIJKLMNOPQRSTUVWXYZ";
    // The bounds of what a hex digit is, seen from outside, and digits that are not 0 .. 9.
    private static final String[] NO_HEX_DIGITS = {
        "/", ":", "@", "G", "`", "g", "\u0660", "\uff11", "-", " ", "\\", "]"};

    public static void main(String[] args) {
        charForItself();
        signsAreNoChars();
        signsInStrings();
        escapedLetters();
        escapedOthers();
        escapeAtTheEnd();
        fourDigits();
        bracedDigits();
        bracedValues();
        hexDigits();
        stringLengths();
        stringSigns();
        stringCodePoints();
        spacesThatSayNothing();
        spacesAroundSigns();
        spacesInStrings();
        spacesElsewhere();
        otherBlanksAreChars();
        nameSigns();
        nameNone();
        nameCase();
        propertyForms();
        propertyOrNothing();
        propertyOthers();
        namedSets();
        CHECK.finish();
    }

    private static String sign(int c) {
        return Character.toString(c);
    }

    /** "a code point that is none of [ ] { } - & ^ \ and space, for itself" */
    private static void charForItself() {
        for (int c = 0; c < 300; c++) {
            if (SIGNS.indexOf(c) < 0) {
                PATTERNS.one("[" + (c == ':' ? " " : "") + sign(c) + "]", c);
            }
        }
        int[] others = {880, 8490, 55295, 55296, 57343, 57344, 65535, 65536, 1114110, 1114111};
        for (int c : others) {
            PATTERNS.one("[" + sign(c) + "]", c);
        }
    }

    private static void signsAreNoChars() {
        for (String c : new String[] {"[", "]", "{", "}", "&", "^"}) {
            PATTERNS.none("[a" + c + "]", "[a" + c + "b]", "[a-" + c + "]", "[ " + c + "-a]", c);
        }
        PATTERNS.none("[a\\]", "\\", "[a--]", "[--a]", "-", " ", "[a-\\]");
        PATTERNS.value("[a ]", "97 98");
    }

    private static void signsInStrings() {
        for (String c : new String[] {"[", "]", "{", "-", "&", "^"}) {
            PATTERNS.none("[{" + c + "}]", "[{a" + c + "}]", "[{" + c + "a}]", "[{a" + c + "b}]");
        }
        PATTERNS.none("[{}}]", "[{a}}]", "[{ab\\}]");
        for (int k = 0; k < SIGNS.length(); k++) {
            int c = SIGNS.charAt(k);
            PATTERNS.one("[{\\" + sign(c) + "}]", c);
        }
    }

    /** "\ n (10) or \ t (9) .. or \ and a code point that is no letter a .. z or A .. Z" */
    private static void escapedLetters() {
        PATTERNS.one("[\\n]", 10);
        PATTERNS.one("[\\t]", 9);
        for (int k = 0; k < LETTERS.length(); k++) {
            char c = LETTERS.charAt(k);
            if (c != 'n' && c != 't') {
                PATTERNS.none("[\\" + c + "]");
            }
            PATTERNS.none("\\" + c);
        }
        PATTERNS.none("[\\N]", "[\\T]", "[\\U0041]", "[\\X{41}]");
    }

    private static void escapedOthers() {
        for (int c = 0; c < 256; c++) {
            if (LETTERS.indexOf(c) < 0) {
                PATTERNS.one("[\\" + sign(c) + "]", c);
            }
        }
        int[] others = {305, 8490, 55296, 65313, 65536, 1114111};
        for (int c : others) {
            PATTERNS.one("[\\" + sign(c) + "]", c);
        }
    }

    private static void escapeAtTheEnd() {
        PATTERNS.none("[\\", "[a\\", "\\", "[[a]\\", "[{\\", "[{ab}\\", "[a]\\");
        PATTERNS.value("[\\\\]", "92 93");
        PATTERNS.none("[\\\\\\]");
        PATTERNS.value("[\\\\\\]]", "92 94");
    }

    /** "\ u and four hex digits" */
    private static void fourDigits() {
        PATTERNS.none("[\\u]", "[\\u4]", "[\\u41]", "[\\u041]", "[\\u", "[\\u0", "[\\u00", "[\\u004", "[\\u0041");
        PATTERNS.one("[\\u0041]", 65);
        PATTERNS.value("[\\u00410]", "48 49 65 66");
        PATTERNS.one("[\\u0000]", 0);
        PATTERNS.one("[\\uffff]", 65535);
        PATTERNS.one("[\\uFFFF]", 65535);
        PATTERNS.one("[\\ud800]", 55296);
        PATTERNS.value("[\\ud83d\\ude00]", "55357 55358 56832 56833");
        PATTERNS.none("[\\u{41}]", "[\\u{0041}]", "[\\u 0041]", "[\\u00 41]", "\\u0041");
    }

    /** "\ x { and one to six hex digits .. and }" */
    private static void bracedDigits() {
        PATTERNS.none("[\\x{}]");
        for (String digits : new String[] {"7", "07", "007", "0007", "00007", "000007"}) {
            PATTERNS.one("[\\x{" + digits + "}]", 7);
        }
        PATTERNS.none("[\\x{0000007}]", "[\\x{0000000}]", "[\\x{00000000000000000007}]");
        PATTERNS.none("[\\x]", "[\\x7]", "[\\x7}]", "[\\x{7]", "[\\x{7", "[\\x{", "[\\x", "[\\x[7}]", "[\\x{7]}",
            "\\x{7}");
        PATTERNS.none("[\\x{-7}]", "[\\x{+7}]", "[\\x{7}", "[\\x{{7}}]");
    }

    /** "of a value up to 1114111" */
    private static void bracedValues() {
        PATTERNS.one("[\\x{0}]", 0);
        PATTERNS.one("[\\x{000000}]", 0);
        PATTERNS.one("[\\x{ffff}]", 65535);
        PATTERNS.one("[\\x{10000}]", 65536);
        PATTERNS.one("[\\x{fffff}]", 1048575);
        PATTERNS.one("[\\x{10fffe}]", 1114110);
        PATTERNS.one("[\\x{10ffff}]", 1114111);
        PATTERNS.one("[\\x{10FFFF}]", 1114111);
        PATTERNS.none("[\\x{110000}]", "[\\x{110001}]", "[\\x{200000}]", "[\\x{ffffff}]", "[a-\\x{110000}]",
            "[{a\\x{110000}}]");
    }

    /** "HEX digits are 0 .. 9, a .. f, A .. F." */
    private static void hexDigits() {
        String digits = "0123456789abcdefABCDEF";
        for (int k = 0; k < digits.length(); k++) {
            int value = Integer.parseInt(digits.substring(k, k + 1), 16);
            PATTERNS.one("[\\x{" + digits.charAt(k) + "}]", value);
            PATTERNS.one("[\\x{10000" + digits.charAt(k) + "}]", 0x100000 + value);
            PATTERNS.one("[\\u" + digits.charAt(k) + "000]", value * 4096);
            PATTERNS.one("[\\u100" + digits.charAt(k) + "]", 4096 + value);
        }
        for (String c : NO_HEX_DIGITS) {
            PATTERNS.none("[\\x{" + c + "}]", "[\\x{1" + c + "}]", "[\\x{" + c + "1}]", "[\\x{10000" + c + "}]");
            PATTERNS.none("[\\u" + c + "000]", "[\\u0" + c + "00]", "[\\u00" + c + "0]", "[\\u000" + c + "]");
        }
    }

    /** "{ and one to three CHARs and }: with one CHAR that code point, otherwise that string." */
    private static void stringLengths() {
        PATTERNS.none("[{}]", "[{ }]");
        PATTERNS.value("[{c}]", "99 100");
        PATTERNS.value("[{cd}]", "{cd}");
        PATTERNS.value("[{cde}]", "{cde}");
        PATTERNS.none("[{cdef}]", "[{c d e f}]", "[{cdefg}]", "[{" + "c".repeat(56) + "}]");
        PATTERNS.value("[{cc}]", "{cc}");
        PATTERNS.value("[{ccc}]", "{ccc}");
        PATTERNS.value("[{c}{cd}{cde}]", "99 100 {cd}{cde}");
        PATTERNS.none("{c}", "{cd}", "{cde}");
    }

    private static void stringSigns() {
        PATTERNS.none("[{cd]", "[{cd", "[{c", "[{", "[cd}]", "[}]", "[{]", "[{cd]}", "[{cd}}]", "[{{cd}]", "[{{cd}}]");
        PATTERNS.none("[}cd}]", "[{cd{]", "[}cd{]", "[{c{]", "[}c}]", "[}cd]");
        PATTERNS.none("[{c-d}]", "[{[c]d}]", "[{\\p{any}}]", "[{[:any:]}]", "[{c&d}]", "[{^c}]");
        PATTERNS.value("[{\\n\\t}]", "{\\x{a}\\x{9}}");
        PATTERNS.value("[{\\u0041\\x{42}C}]", "{ABC}");
        PATTERNS.value("[{\\{\\}}]", "{\\{\\}}");
        PATTERNS.value("[{::}]", "{\\:\\:}");
    }

    private static void stringCodePoints() {
        PATTERNS.value("[{\\x{0}\\x{0}}]", "{\\x{0}\\x{0}}");
        PATTERNS.value("[{\\x{0}\\x{0}\\x{0}}]", "{\\x{0}\\x{0}\\x{0}}");
        PATTERNS.value("[{\\x{0}\\x{0}}{\\x{0}\\x{0}\\x{0}}]", "{\\x{0}\\x{0}}{\\x{0}\\x{0}\\x{0}}");
        PATTERNS.value("[{\\x{10ffff}\\x{10ffff}\\x{10ffff}}]", "{\\x{10ffff}\\x{10ffff}\\x{10ffff}}");
        PATTERNS.value("[{\\x{10ffff}\\x{0}}]", "{\\x{10ffff}\\x{0}}");
        PATTERNS.value("[{\\x{0}\\x{10ffff}}]", "{\\x{0}\\x{10ffff}}");
    }

    /** "within a bracket before, between and behind its items" */
    private static void spacesThatSayNothing() {
        PATTERNS.same("", "[]", "[ ]", "[  ]", "[" + " ".repeat(58) + "]");
        PATTERNS.same("0 1114112", "[^]", "[^ ]", "[^" + " ".repeat(57) + "]");
        PATTERNS.same("97 98", "[a]", "[ a]", "[a ]", "[ a ]", "[   a   ]", "[ [a]]", "[[a] ]", "[[ a]]", "[[a ]]");
        PATTERNS.same("97 99", "[ab]", "[a b]", "[a    b]", "[ a b ]", "[[a] [b]]", "[a [b]]", "[[a] b]", "[{a} b]");
        PATTERNS.same("48 58 97 98", "[a \\p{digit}]", "[\\p{digit} a]", "[a [:digit:]]", "[ [:digit:] a ]");
        PATTERNS.same("97 98 {ab}", "[ {ab} a]", "[a {ab}]", "[{ab} a]", "[a{ab} ]");
        PATTERNS.same("0 97 98 1114112", "[^ a]", "[^a ]", "[^ a ]");
        PATTERNS.value("[^a b]", "0 97 99 1114112");
    }

    /** "and before and behind the signs - and & in items" */
    private static void spacesAroundSigns() {
        PATTERNS.same("97 100", "[a-c]", "[a -c]", "[a- c]", "[a - c]", "[a   -   c]", "[ a - c ]");
        PATTERNS.same("98 99", "[[ab]&[b]]", "[[ab] &[b]]", "[[ab]& [b]]", "[[ab] & [b]]", "[ [ab]  &  [b] ]");
        PATTERNS.same("97 98", "[[ab]-[b]]", "[[ab] -[b]]", "[[ab]- [b]]", "[[ab] - [b]]", "[ [ab]  -  [b] ]");
        PATTERNS.same("45 46", "[-]", "[ -]", "[- ]", "[ - ]", "[- -]", "[ - - ]");
        PATTERNS.same("45 46 97 98", "[-a]", "[ -a]", "[- a]", "[a-]", "[a -]", "[a- ]", "[a - ]",
            "[[a] -]", "[[a]- ]");
        PATTERNS.same("53 54", "[\\p{digit} & [5]]", "[[5] &\\p{digit}]", "[[:digit:] & [5]]", "[[5]& [:digit:]]");
    }

    /** "and within a STRING EXPRESSION before, between and behind its CHARs" */
    private static void spacesInStrings() {
        PATTERNS.same("97 98", "[{a}]", "[{ a}]", "[{a }]", "[{   a   }]");
        PATTERNS.same("{ab}", "[{ab}]", "[{ ab}]", "[{a b}]", "[{ab }]", "[{ a b }]", "[{  a  b  }]");
        PATTERNS.same("{abc}", "[{abc}]", "[{ abc}]", "[{a bc}]", "[{ab c}]", "[{abc }]", "[{ a b c }]");
        PATTERNS.value("[{a\\ b}]", "{a\\x{20}b}");
        PATTERNS.none("[{}]", "[{ }]", "[{   }]", "[{a b c d}]");
    }

    /** "nowhere else" */
    private static void spacesElsewhere() {
        PATTERNS.none(" [a]", "[a] ", " [a] ", "  ", " \\p{any}", "\\p{any} ", " [:any:]", "[:any:] ");
        PATTERNS.none("[ ^a]", "[[ ^a]]", "[ ^]");
        PATTERNS.none("[\\u 0041]", "[\\u0 041]", "[\\u00 41]", "[\\u004 1]");
        PATTERNS.none("[\\x {61}]", "[\\x{ 61}]", "[\\x{6 1}]", "[\\x{61 }]");
        PATTERNS.none("\\p {any}", "\\P {any}", "\\ p{any}", "[: ^any:]", "[:any: ]", "[ :any:] ");
        // A space behind the backslash is what the backslash makes a CHAR of.
        PATTERNS.value("[\\ n]", "32 33 110 111");
        PATTERNS.value("[\\ u0041]", "32 33 48 50 52 53 117 118");
        PATTERNS.value("[\\ p{any}]", "32 33 112 113 {any}");
        PATTERNS.value("[\\ ]", "32 33");
        PATTERNS.value("[\\  ]", "32 33");
        PATTERNS.value("[ :any:]", "58 59 97 98 110 111 121 122");
    }

    private static void otherBlanksAreChars() {
        int[] blanks = {9, 10, 13, 133, 160, 8195, 12288};
        for (int c : blanks) {
            PATTERNS.one("[" + sign(c) + "]", c);
            PATTERNS.none(sign(c) + "[a]", "[a]" + sign(c), "\\p{a" + sign(c) + "ny}", "[:any" + sign(c) + ":]");
        }
        PATTERNS.value("[a\t-b]", "9 99");
        PATTERNS.value("[{a\tb}]", "{a\\x{9}b}");
        PATTERNS.none("[{a\tbc}]");
    }

    /** "a row of letters a .. z, A .. Z, and of the characters space, _ and -; these three left out" */
    private static void nameSigns() {
        PATTERNS.same("48 58", "\\p{digit}", "\\p{ digit}", "\\p{digit }", "\\p{di git}", "\\p{_digit}", "\\p{digit_}",
            "\\p{di_git}", "\\p{-digit}", "\\p{digit-}", "\\p{di-git}", "\\p{d i-g_i  t}", "\\p{-_ digit -_}");
        PATTERNS.same("48 58", "[: digit:]", "[:digit :]", "[:di git:]", "[:_digit:]", "[:digit_:]", "[:-digit:]",
            "[:digit-:]", "[:- _digit_ -:]");
        PATTERNS.same("0 48 58 1114112", "\\P{ di-git_}", "[:^ di-git_:]", "[:^-digit:]");
        PATTERNS.same("48 58 65 71 97 103", "\\p{hexdigit}", "\\p{hex digit}", "\\p{Hex_Digit}", "\\p{HEX-DIGIT}");
        PATTERNS.value("\\p{" + " ".repeat(51) + "digit}", "48 58");
        PATTERNS.none("\\p{digit0}", "\\p{0digit}", "\\p{di.git}", "\\p{di:git}", "\\p{di\\git}", "\\p{di+git}",
            "\\p{di,git}", "\\p{di@git}", "\\p{di[git}", "\\p{di`git}", "\\p{di{git}", "\\p{d\u0131git}",
            "\\p{\u00a0digit}", "\\p{di\u2010git}", "[:di]git:]", "[:di\ngit:]");
    }

    /** "it must be one of the names below" */
    private static void nameNone() {
        PATTERNS.none("\\p{}", "\\p{ }", "\\p{_}", "\\p{-}", "\\p{- _}", "\\P{}", "[::]", "[:^:]", "[: :]", "[:^ -_:]");
        PATTERNS.none("\\p{a}", "\\p{an}", "\\p{anyy}", "\\p{nay}", "\\p{ny}", "\\p{asci}", "\\p{digits}", "\\p{hex}",
            "\\p{uppercase}", "\\p{low}", "\\p{letters}", "\\p{greece}", "\\p{spaces}", "\\p{surrogates}");
        // Another letter at one place, from the first to the last.
        PATTERNS.none("\\p{xigit}", "\\p{dxgit}", "\\p{dixit}", "\\p{digxt}", "\\p{digix}", "[:bny:]", "[:amy:]",
            "[:anx:]", "\\p{tower}", "\\p{latter}", "\\p{better}", "\\p{spare}");
        PATTERNS.none("\\p{digitdigit}", "\\p{anyany}", "\\p{digitany}", "[:xdigit:]", "[:alpha:]", "\\p{not a name}");
        PATTERNS.none("\\p{" + "a".repeat(56) + "}", "[:" + "z".repeat(56) + ":]");
    }

    /** "and all letters made small" */
    private static void nameCase() {
        PATTERNS.same("0 128", "\\p{ascii}", "\\p{ASCII}", "\\p{Ascii}", "\\p{aSCIi}", "[:ASCII:]");
        PATTERNS.same("128 1114112", "\\P{ASCII}", "[:^Ascii:]");
        PATTERNS.same("880 1024", "\\p{GREEK}", "\\p{GreeK}");
        // 8490 and 383 are alike to letters, and yet none.
        PATTERNS.none("\\p{gree\u212a}", "\\p{\u017fpace}", "\\p{\uff21ny}", "\\p{@ny}", "\\p{!ny}", "\\p{digi4}");
    }

    /** "\ p { NAME } or [ : NAME : ] .. or \ P { NAME } or [ : ^ NAME : ]" */
    private static void propertyForms() {
        PATTERNS.same("48 58", "\\p{digit}", "[:digit:]", "[\\p{digit}]", "[[:digit:]]");
        PATTERNS.same("0 48 58 1114112", "\\P{digit}", "[:^digit:]", "[\\P{digit}]", "[[:^digit:]]");
        PATTERNS.none("\\p", "\\p{", "\\p{digit", "\\pdigit", "\\pdigit}", "\\p{digit]", "\\p[digit]", "\\p(digit)",
            "p{digit}", "\\p{^digit}", "\\p{:digit:}", "\\p{digit:]", "\\p{digit}}", "\\p{{digit}}", "\\\\p{digit}");
        PATTERNS.none("\\P", "\\P{", "\\P{digit", "\\Pdigit", "\\P{digit]", "\\P{^digit}");
        PATTERNS.none("[:", "[:digit", "[:digit:", "[:digit]", "[:digit:}", "[:digit}", "[:^", "[:^digit", "[:^digit:",
            "[:^digit]", "[:^^digit:]", "[:digit^:]", "[:digit:]]", "[:digit::]", "[::digit:]");
    }

    /** "What begins with [ and : directly behind it is this, or nothing." */
    private static void propertyOrNothing() {
        PATTERNS.none("[:]", "[:a]", "[::]", "[:a:]", "[:a-z]", "[:-]", "[:[a]]", "[:digit]", "[[:]]", "[[:a]]",
            "[a[:]]");
        PATTERNS.none("[:\\p{digit}]", "[[a][:b]]", "[[a]-[:b]]", "[[a]&[:]]", "[: ]", "[: a]", "[^[:]]");
        PATTERNS.same("58 59", "[ :]", "[\\:]", "[ ::]", "[{:}]", "[[ :]]");
        PATTERNS.same("58 59 97 98", "[a:]", "[ :a]", "[ a : ]");
        PATTERNS.same("0 58 59 1114112", "[^:]", "[^ :]", "[^\\:]");
        PATTERNS.value("[^:any:]", "0 58 59 97 98 110 111 121 122 1114112");
        PATTERNS.value("[any:]", "58 59 97 98 110 111 121 122");
    }

    /** "all other code points" */
    private static void propertyOthers() {
        PATTERNS.same("", "\\P{any}", "[:^any:]", "[\\P{any}]", "[^\\p{any}]", "[^[:any:]]");
        PATTERNS.same("0 1114112", "\\p{any}", "[:any:]", "[^\\P{any}]", "[^[:^any:]]");
        PATTERNS.value("\\P{ascii}", "128 1114112");
        PATTERNS.value("\\P{surrogate}", "0 55296 57344 1114112");
        PATTERNS.value("\\P{hexdigit}", "0 48 58 65 71 97 103 1114112");
        PATTERNS.value("[:^space:]", "0 9 14 32 33 133 134 160 161 1114112");
        PATTERNS.value("[:^upper:]", "0 65 91 192 215 216 223 1114112");
        PATTERNS.value("\\P{lower}", "0 97 123 223 247 248 256 1114112");
        PATTERNS.value("\\P{letter}",
            "0 65 91 97 123 170 171 181 182 186 187 192 215 216 247 248 256 880 1024 1114112");
    }

    /** NAMES: the bounds of each of them, from both sides. */
    private static void namedSets() {
        bounds("any", 0, 1114111);
        bounds("ascii", 0, 127);
        bounds("digit", 48, 57);
        bounds("hexdigit", 48, 57, 65, 70, 97, 102);
        bounds("upper", 65, 90, 192, 214, 216, 222);
        bounds("lower", 97, 122, 223, 246, 248, 255);
        bounds("letter", 65, 90, 97, 122, 170, 170, 181, 181, 186, 186, 192, 214, 216, 246, 248, 255, 880, 1023);
        bounds("greek", 880, 1023);
        bounds("space", 9, 13, 32, 32, 133, 133, 160, 160);
        bounds("surrogate", 55296, 57343);
    }

    private static void bounds(String name, int... firstAndLast) {
        Counted x = new Counted();
        Check.load(x, 0, "\\p{" + name + "}");
        Check.load(x, 1, "[:^" + name + ":]");
        int size = 0;
        StringBuilder edges = new StringBuilder();
        for (int k = 0; k < firstAndLast.length; k += 2) {
            int first = firstAndLast[k];
            int last = firstAndLast[k + 1];
            size += last - first + 1;
            edges.append(first).append(' ').append(last + 1).append(' ');
            isIn(x, name, first, true);
            isIn(x, name, last, true);
            isIn(x, name, first - 1, false);
            isIn(x, name, last + 1, false);
        }
        CHECK.same("size of " + name, x.size(0), size);
        CHECK.same("size of the others of " + name, x.size(1), 1114112 - size);
        PATTERNS.same(edges.toString().trim(), "\\p{" + name + "}", "[:" + name + ":]", "[[:" + name + ":]]",
            "[^\\P{" + name + "}]");
    }

    private static void isIn(Counted x, String name, int c, boolean due) {
        boolean isCodePoint = c >= 0 && c < 1114112;
        CHECK.same(c + " in " + name, x.contains(0, c) ? 1 : 0, due ? 1 : 0);
        CHECK.same(c + " in the others of " + name, x.contains(1, c) ? 1 : 0, !due && isCodePoint ? 1 : 0);
    }
}
