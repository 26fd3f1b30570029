/** The boundary cases of BRACKET, ITEM and a bracket's VALUE, and of promise 6: apply. */
public final class BoundaryBracketTest {

    private static final Check CHECK = new Check();
    private static final Patterns PATTERNS = new Patterns(CHECK);
    private static final String EIGHT = "{aa}{ab}{ac}{ad}{ba}{bb}{bc}{bd}";
    private static final String SEVEN = EIGHT.substring(4);

    public static void main(String[] args) {
        nothingBeforeOrBehind();
        theWholeTextOfSixty();
        noItems();
        openAndClosed();
        caretDirectlyBehind();
        rangeNotLess();
        rangeOfAll();
        rangeOfCharsOnly();
        rangesThatTouch();
        hyphenFirst();
        hyphenLast();
        hyphenElsewhere();
        hyphenBehindChar();
        signBehindSet();
        signBehindOtherItems();
        signBeforeSet();
        valueFromNoMembers();
        valueItemByItem();
        valueOfStrings();
        turnedValue();
        turnedWithString();
        turnedWhenTheStringIsGone();
        eightStrings();
        nineStrings();
        nineStringsForAMoment();
        fiveDeep();
        sixDeep();
        depthOfProperties();
        noSuchRegister();
        textStays();
        registerIsReplaced();
        CHECK.finish();
    }

    /** "the whole TEXT is it, with nothing before or behind" */
    private static void nothingBeforeOrBehind() {
        PATTERNS.none("", "a", "-", "^", "&", ":", "ab", "{a}", "{ab}", "a-c", "^a");
        for (String pattern : new String[] {"[]", "[a]", "[^a]", "[[a]]", "\\p{digit}", "\\P{digit}", "[:digit:]"}) {
            for (String rest : new String[] {"a", " ", "-", "&", "^", "]", "}", "[]", "[a]", "\\p{any}", "\\n"}) {
                PATTERNS.none(pattern + rest, rest + pattern);
            }
            PATTERNS.none(pattern + "[", pattern + "\\", pattern + "{", pattern + "-[a]", pattern + "&[a]");
            PATTERNS.none("^" + pattern, "-" + pattern, "\u0000" + pattern, pattern + "\u0000");
            for (String broken : new String[] {"[:", "[:x:]", "\\q", "\\u1", "\\x{", "\\x{110000}", "\\p{x}", "\\P"}) {
                PATTERNS.none(pattern + broken, broken + pattern);
            }
        }
    }

    private static void theWholeTextOfSixty() {
        PATTERNS.value("[" + "a".repeat(58) + "]", "97 98");
        PATTERNS.none("[" + "a".repeat(59), "a".repeat(59) + "]");
        PATTERNS.none("[" + "a".repeat(57) + "]a", "[" + "a".repeat(57) + "]]", "a[" + "a".repeat(57) + "]");
        PATTERNS.none("[".repeat(60), "]".repeat(60), "-".repeat(60), "\\".repeat(60), "{".repeat(60), " ".repeat(60));
        PATTERNS.value("[" + "[]".repeat(29) + "]", "");
        PATTERNS.value("[ []" + "-[]&[]".repeat(9) + "-]", "45 46");
        StringBuilder row = new StringBuilder();
        StringBuilder edges = new StringBuilder("0 ");
        for (int k = 0; k < 57; k++) {
            row.appendCodePoint(1000 + 2 * k);
            edges.append(1000 + 2 * k).append(' ').append(1001 + 2 * k).append(' ');
        }
        PATTERNS.value("[^" + row + "]", edges + "1114112");
    }

    /** "a row of ITEMS (perhaps none)" */
    private static void noItems() {
        PATTERNS.same("", "[]", "[ ]", "[[]]", "[[][]]", "[[[[[]]]]]");
        PATTERNS.same("0 1114112", "[^]", "[^ ]", "[[^]]", "[^[]]");
        PATTERNS.same("", "[^[^]]", "[[]-[]]", "[[]&[]]", "[[^]-[^]]", "[[]&[^]]", "[[]-[^]]");
        PATTERNS.same("0 1114112", "[[^]-[]]", "[[^]&[^]]", "[[][^]]");
    }

    private static void openAndClosed() {
        PATTERNS.none("[", "]", "[[", "]]", "][", "[[]", "[]]", "[a", "a]", "[[a]", "[a]]", "[^", "[^a", "[[^]");
        PATTERNS.none("[[a]-[b]", "[a-", "[a-b", "[[a]-", "[[a]&", "[[a]&[", "[-", "[ ", "[a ", "[{a}", "[\\p{any}",
            "[[:any:]");
    }

    /** "perhaps ^ directly behind it" */
    private static void caretDirectlyBehind() {
        PATTERNS.value("[^a]", "0 97 98 1114112");
        PATTERNS.none("[ ^a]", "[a^]", "[^^]", "[^^a]", "[^a^]", "[a^b]", "[^ ^a]", "[-^a]", "[[a]^]", "[[a]^[b]]");
        PATTERNS.value("[^\\^]", "0 94 95 1114112");
        PATTERNS.value("[\\^a]", "94 95 97 98");
        PATTERNS.value("[[^a]&[^b]]", "0 97 99 1114112");
    }

    /** "a CHAR, - and a CHAR, the second one not less than the first" */
    private static void rangeNotLess() {
        PATTERNS.value("[a-b]", "97 99");
        PATTERNS.value("[a-a]", "97 98");
        PATTERNS.none("[b-a]", "[z-a]", "[\\x{1}-\\x{0}]", "[\\x{10ffff}-\\x{10fffe}]", "[\\n-\\t]", "[a-Z]", "[^b-a]");
        PATTERNS.value("[\\t-\\n]", "9 11");
        PATTERNS.value("[\\x{0}-\\x{0}]", "0 1");
        PATTERNS.value("[\\x{0}-\\x{1}]", "0 2");
        PATTERNS.value("[\\x{10ffff}-\\x{10ffff}]", "1114111 1114112");
        PATTERNS.value("[\\x{10fffe}-\\x{10ffff}]", "1114110 1114112");
        PATTERNS.none("[a-cz-y]", "[z-ya-c]", "[[b-a]]", "[[a-c]-[b-a]]");
    }

    private static void rangeOfAll() {
        PATTERNS.same("0 1114112", "[\\x{0}-\\x{10ffff}]", "[\u0000-\udbff\udfff]");
        PATTERNS.value("[\\x{1}-\\x{10ffff}]", "1 1114112");
        PATTERNS.value("[\\x{0}-\\x{10fffe}]", "0 1114111");
        PATTERNS.value("[^\\x{0}-\\x{10ffff}]", "");
        PATTERNS.value("[\\ud7ff-\\ue000]", "55295 57345");
    }

    private static void rangeOfCharsOnly() {
        PATTERNS.none("[a-{b}]", "[{a}-b]", "[{a}-{b}]", "[a-[b]]", "[a-\\p{any}]", "[a-[:any:]]", "[a-&]", "[a-^]");
        PATTERNS.none("[a-{bc}]", "[{ab}-c]", "[a-\\q]", "[\\q-a]", "[a-}]", "[a-{]", "[a-[]", "[a-[b]]");
        PATTERNS.value("[\\--\\-]", "45 46");
        PATTERNS.value("[\\--.]", "45 47");
        PATTERNS.value("[,-\\-]", "44 46");
        PATTERNS.value("[\\u0061-\\x{63}]", "97 100");
        PATTERNS.value("[\\[-\\]]", "91 94");
        PATTERNS.value("[\\ -!]", "32 34");
    }

    /** "Its RANGES are the longest rows of code points that follow one another and are all members" */
    private static void rangesThatTouch() {
        PATTERNS.same("97 103", "[a-cd-f]", "[d-fa-c]", "[a-dc-f]", "[a-fb-e]", "[b-ea-f]", "[fedcba]", "[ace[bdf]]");
        PATTERNS.value("[a-ce-g]", "97 100 101 104");
        PATTERNS.value("[a-ce-gd]", "97 104");
        PATTERNS.value("[[a-g]-[d]]", "97 100 101 104");
        PATTERNS.value("[[a-g]-[a]]", "98 104");
        PATTERNS.value("[[a-g]-[g]]", "97 103");
        PATTERNS.value("[[^a][a]]", "0 1114112");
        PATTERNS.value("[\\x{10fffe}\\x{10ffff}]", "1114110 1114112");
    }

    /** "the character - , as the first item .. for itself (as the first item it is not the beginning of a range)" */
    private static void hyphenFirst() {
        PATTERNS.value("[-]", "45 46");
        PATTERNS.same("45 46 97 98", "[-a]", "[ - a]", "[-{a}]", "[-[a]]", "[- [a]]", "[-aa]");
        PATTERNS.same("45 46 48 58", "[-\\p{digit}]", "[-[:digit:]]", "[-0-9]");
        PATTERNS.same("0 45 46 97 98 1114112", "[^-a]", "[^ -a]", "[^-[a]]");
        PATTERNS.value("[-{ab}]", "45 46 {ab}");
        PATTERNS.none("[--a]", "[--z]", "[- -a]", "[--\\-]", "[--[a]]", "[-&[a]]", "[--{a}]", "[^--a]");
        PATTERNS.value("[[a][-[b]]]", "45 46 97 99");
        PATTERNS.value("[[ab]-[-[b]]]", "97 98");
    }

    /** "or as the last one, for itself" */
    private static void hyphenLast() {
        PATTERNS.same("45 46 97 98", "[a-]", "[a - ]", "[{a}-]", "[[a]-]", "[[a] - ]");
        PATTERNS.same("45 46 97 100", "[a-c-]", "[[a-c]-]", "[abc-]");
        PATTERNS.same("45 46 48 58", "[\\p{digit}-]", "[[:digit:]-]", "[0-9-]");
        PATTERNS.same("0 45 46 97 98 1114112", "[^a-]", "[^[a]-]");
        PATTERNS.value("[{ab}-]", "45 46 {ab}");
        PATTERNS.same("45 46", "[--]", "[ - - ]", "[-[]-]", "[[]-]", "[[a]-[a]-]", "[[a]&[b]-]");
        PATTERNS.value("[-a-]", "45 46 97 98");
        PATTERNS.value("[[a-][b]]", "45 46 97 99");
        PATTERNS.value("[[a]-[a-]-]", "45 46");
        PATTERNS.value("[[a-]-[a-]]", "");
    }

    private static void hyphenElsewhere() {
        PATTERNS.none("[---]", "[----]", "[a--]", "[a---]", "[-a--]", "[[a]--]", "[[a]--[b]]", "[{a}--]", "[[a]- -]");
        PATTERNS.none("[{a}-b]", "[{ab}-c]", "[{ab}-{cd}]", "[{ab}-[c]]", "[[a]-b]", "[[a]-{b}]", "[\\p{any}-a]");
        PATTERNS.none("[a-c-e]", "[a-c-[b]]", "[a-c--]", "[-a-c-e]", "[a-cx-]-", "[a-c-{ab}]", "[a-c-\\p{any}]");
    }

    /** "behind a CHAR any other - makes a range" */
    private static void hyphenBehindChar() {
        PATTERNS.value("[ab-d]", "97 101");
        PATTERNS.value("[[x]b-d]", "98 101 120 121");
        PATTERNS.value("[{x}b-d]", "98 101 120 121");
        PATTERNS.none("[b-[b]]", "[[x]b-[b]]", "[b-\\p{any}]", "[b-[]]", "[b--c]", "[b-&[c]]", "[b-{c}]");
        PATTERNS.same("45 46 98 99", "[b-]", "[b - ]");
    }

    /** "& or - and a set expression, directly behind an item that ends with a set expression" */
    private static void signBehindSet() {
        PATTERNS.same("98 99", "[[ab]&[bc]]", "[\\p{lower}&[b]]", "[[:lower:]&[b]]", "[[ab]-[a]&[bc]]", "[a[ab]&[b]]");
        PATTERNS.same("97 98", "[[ab]-[bc]]", "[[a]-\\p{digit}]", "[[a]-[:digit:]]", "[[ab]&[ab]-[b]]",
            "[[ab]-[b]-[c]]");
        PATTERNS.same("98 99", "[[a-c]-[a]-[c]]", "[[a-c]&[ab]&[bc]]", "[-[ab]&[b]]", "[[a][b]&[b]]", "[[a]&[b][b]]");
        PATTERNS.value("[\\p{any}-\\P{digit}]", "48 58");
        PATTERNS.value("[[:any:]&[:digit:]]", "48 58");
    }

    private static void signBehindOtherItems() {
        PATTERNS.none("[&[a]]", "[^&[a]]", "[a&[a]]", "[{a}&[a]]", "[{ab}&[a]]", "[a-c&[b]]", "[-&[a]]", "[ &[a]]");
        PATTERNS.none("[[a]b&[b]]", "[[a]b-[b]]", "[[a]b-c&[b]]", "[[a]{b}&[b]]", "[[a]{b}-[b]]", "[[a]{bc}-[b]]");
        PATTERNS.none("[[a]&[a]b&[b]]", "[[a]-[a]b-[b]]", "[[][&[a]]]", "[[a][&[a]]]", "[\\p{any}a&[a]]");
        PATTERNS.none("[[[a]][&[a]]]", "[[a[b]][&[b]]]", "[[[a]-[b]][&[a]]]", "[[[a]][{a}&[a]]]");
    }

    private static void signBeforeSet() {
        PATTERNS.none("[[a]&]", "[[a]& ]", "[[a]&a]", "[[a]&{a}]", "[[a]&{ab}]", "[[a]&-]", "[[a]&&]", "[[a]&&[a]]");
        PATTERNS.none("[[a]-a]", "[[a]-{a}]", "[[a]-{ab}]", "[[a]-&]", "[[a]-&[a]]", "[[a]&-[a]]", "[[a]- -[a]]");
        PATTERNS.none("[[a]&[:a:]]", "[[a]-\\p{x}]", "[[a]&\\n]", "[[a]&^]", "[[a]&", "[[a]-", "&[a]", "-[a]",
            "[a]&[a]");
    }

    /** "A bracket's VALUE is worked out item by item, from no members" */
    private static void valueFromNoMembers() {
        PATTERNS.value("[[]&[^]]", "");
        PATTERNS.value("[[]&[^]a]", "97 98");
        PATTERNS.value("[[]-[a]a]", "97 98");
        PATTERNS.value("[x[y[]]]", "120 122");
        PATTERNS.value("[[a]&[b]]", "");
    }

    /** "what an item of the first kinds says is added; & takes out all members that are not in .., - all that are" */
    private static void valueItemByItem() {
        PATTERNS.value("[a[b]-[a]]", "98 99");
        PATTERNS.value("[[b]-[a]a]", "97 99");
        PATTERNS.value("[a[b]&[a]]", "97 98");
        PATTERNS.value("[[b]&[a]a]", "97 98");
        PATTERNS.value("[[a]-[a][a]]", "97 98");
        PATTERNS.value("[[a][b]-[b]]", "97 98");
        PATTERNS.value("[[b][a]-[b]]", "97 98");
        PATTERNS.value("[[ab]&[bc][cd]-[d]]", "98 100");
        PATTERNS.value("[[ab]-[[ab]-[b]]]", "98 99");
        PATTERNS.value("[[ab]-[ab]-[b]]", "");
        PATTERNS.value("[[^]-[\\x{0}]-[\\x{10ffff}]]", "1 1114111");
    }

    private static void valueOfStrings() {
        PATTERNS.value("[[{ab}{cd}a]&[{ab}b]]", "{ab}");
        PATTERNS.value("[[{ab}{cd}a]-[{ab}b]]", "97 98 {cd}");
        PATTERNS.value("[{ab}[]&[^]]", "");
        PATTERNS.value("[{ab}[]-[^]]", "{ab}");
        PATTERNS.value("[{ab}[]-[{abc}{ba}]]", "{ab}");
        PATTERNS.value("[{ab}[]-[ab]]", "{ab}");
        PATTERNS.value("[ab[]-[{ab}]]", "97 99");
        PATTERNS.value("[[]-[{ab}]{ab}]", "{ab}");
        PATTERNS.value("[{ab}{ab}[{ab}]]", "{ab}");
    }

    /** "With ^, the value is then all code points that are not members." */
    private static void turnedValue() {
        PATTERNS.value("[^\\x{0}]", "1 1114112");
        PATTERNS.value("[^\\x{10ffff}]", "0 1114111");
        PATTERNS.value("[^\\x{0}\\x{10ffff}]", "1 1114111");
        PATTERNS.value("[^\\x{0}-a]", "98 1114112");
        PATTERNS.value("[^b-\\x{10ffff}]", "0 98");
        PATTERNS.value("[^[^a]]", "97 98");
        PATTERNS.value("[^[^[^a]]]", "0 97 98 1114112");
        PATTERNS.value("[^[a-c]-[b]]", "0 97 98 99 100 1114112");
        PATTERNS.value("[^[a-c]&[b]]", "0 98 99 1114112");
        PATTERNS.value("[b[^a]&[a-c]]", "98 100");
        PATTERNS.value("[^{a}]", "0 97 98 1114112");
    }

    /** "It is no pattern if, with ^, there is a string among the members" */
    private static void turnedWithString() {
        PATTERNS.none("[^{ab}]", "[^{abc}]", "[^a{ab}]", "[^{ab}a]", "[^[{ab}]]", "[^[a{ab}]b]", "[^{ab}[]]");
        PATTERNS.none("[[^{ab}]]", "[a[^{ab}]]", "[[a]-[^{ab}]]", "[[a]&[^{ab}]]", "[[^{ab}]&[]]", "[[^{ab}]-[{ab}]]");
        PATTERNS.none("[^[]-[]{ab}]", "[^[{ab}]&[{ab}]]", "[^[{ab}]-[{cd}]]", "[^[^{ab}]]", "[^[a]-[a]{ab}]");
    }

    private static void turnedWhenTheStringIsGone() {
        PATTERNS.value("[^[{ab}a]-[{ab}]]", "0 97 98 1114112");
        PATTERNS.value("[^{ab}a[]-[{ab}]]", "0 97 98 1114112");
        PATTERNS.value("[^[{ab}a]&[a]]", "0 97 98 1114112");
        PATTERNS.value("[^[{ab}]-[{ab}]]", "0 1114112");
        PATTERNS.value("[{ab}[^a]]", "0 97 98 1114112 {ab}");
        PATTERNS.value("[[^a]{ab}]", "0 97 98 1114112 {ab}");
    }

    private static void eightStrings() {
        PATTERNS.same(EIGHT, "[" + EIGHT + "]", "[" + SEVEN + "{aa}]", "[[" + EIGHT + "]]", "[[" + SEVEN + "]{aa}]");
        PATTERNS.same(EIGHT, "[" + EIGHT + "{aa}]", "[" + EIGHT + "[{aa}{bd}]]", "[" + SEVEN + "[{aa}{ab}]]");
        PATTERNS.value("[" + EIGHT + "{a}b{c}]", "97 100 " + EIGHT);
        PATTERNS.value("[" + EIGHT + "[]-[{aa}]{ca}]", SEVEN + "{ca}");
        PATTERNS.value("[" + EIGHT + "[]&[{aa}]{ca}]", "{aa}{ca}");
        PATTERNS.value("[[" + EIGHT + "]-[{ca}{cb}]]", EIGHT);
        PATTERNS.value("[{ca}[]-[" + EIGHT + "]]", "{ca}");
    }

    /** "if after some item there are more than 8 strings" */
    private static void nineStrings() {
        PATTERNS.none("[" + EIGHT + "{ca}]", "[{ca}" + EIGHT + "]", "[" + EIGHT + "{abc}]", "[" + EIGHT + "[{ca}]]");
        PATTERNS.none("[[" + EIGHT + "]{ca}]", "[[" + EIGHT + "][{ca}]]", "[[" + EIGHT + "{ca}]]");
        PATTERNS.none("[^" + EIGHT + "{ca}]", "[{ca}[" + EIGHT + "]]");
        PATTERNS.none("[[{aa}{ab}{ac}{ad}{ae}][{ba}{bb}{bc}{bd}]]", "[{aa}{ab}{ac}{ad}{ae}[{ba}{bb}{bc}{bd}]]");
        PATTERNS.none("[" + EIGHT + "{ca}{cb}{cc}{cd}{da}]", "[" + EIGHT + "[{ca}{cb}{cc}{cd}]]");
    }

    /** They may not be there for a moment either. */
    private static void nineStringsForAMoment() {
        PATTERNS.none("[" + EIGHT + "{ca}[]-[{ca}]]", "[" + EIGHT + "{ca}[]&[]]", "[" + EIGHT + "[{ca}]-[{ca}]]");
        PATTERNS.none("[[" + EIGHT + "{ca}]-[{ca}]]", "[[" + EIGHT + "{ca}]&[]]", "[[]&[" + EIGHT + "{ca}]]");
        PATTERNS.none("[[]-[" + EIGHT + "{ca}]]", "[[" + EIGHT + "][{ca}]&[]]", "[^" + EIGHT + "{ca}[]&[]]");
        PATTERNS.value("[" + SEVEN + "{aa}[]-[{aa}]{aa}]", EIGHT);
    }

    private static void fiveDeep() {
        PATTERNS.same("97 98", "[a]", "[[a]]", "[[[a]]]", "[[[[a]]]]", "[[[[[a]]]]]", "[ [ [ [ [ a ] ] ] ] ]");
        PATTERNS.value("[[[[[]]]]]", "");
        PATTERNS.value("[[[[[a]b]c]d]e]", "97 102");
        PATTERNS.value("[e[d[c[b[a]]]]]", "97 102");
        PATTERNS.value("[[[[[a]]]][[[[b]]]][[[[c]]]]]", "97 100");
        PATTERNS.value("[[a]-[[[[a]]]]]", "");
        PATTERNS.value("[[a]&[[[[a]]]]]", "97 98");
        PATTERNS.value("[^[^[^[^[^a]]]]]", "0 97 98 1114112");
        PATTERNS.value("[[[[[{ab}]]]]]", "{ab}");
    }

    /** "or if brackets stand inside one another more than five deep (the outermost one counts)" */
    private static void sixDeep() {
        PATTERNS.none("[[[[[[a]]]]]]", "[[[[[[]]]]]]", "[[[[[a[]]]]]]", "[[[[[[a]]]]]", "[a[b[c[d[e[f]]]]]]");
        PATTERNS.none("[[a]-[[[[[a]]]]]]", "[[a]&[[[[[]]]]]]", "[[[[[[a]-[a]]]]]]", "[^[^[^[^[^[^a]]]]]]");
        PATTERNS.none("[[[[[]]]][[[[[]]]]]]", "[[[[[[[a]]]]]]]", "[".repeat(30) + "]".repeat(30), "[[[[[[^]]]]]]");
    }

    /** A property is no bracket, though it may be written with [ and ]. */
    private static void depthOfProperties() {
        PATTERNS.same("48 58", "[[[[[\\p{digit}]]]]]", "[[[[[[:digit:]]]]]]",
            "[[[[[[:digit:]]]]]&[[[[[:digit:]]]]]]");
        PATTERNS.value("[[[[[[:^digit:]]]]]]", "0 48 58 1114112");
        PATTERNS.none("[[[[[[\\p{digit}]]]]]]", "[[[[[[[:digit:]]]]]]]");
    }

    private static Scene prepared(String text) {
        return new Scene(CHECK, text, x -> {
            Check.load(x, 0, "[a]");
            Check.load(x, 1, "[b{ab}]");
            Check.load(x, 2, "[^c]");
            Check.write(x, text);
        });
    }

    /** "false, refused, if there is no such register or the TEXT is no pattern" */
    private static void noSuchRegister() {
        int[] wrong = {-1, 3, 4, -2, 256, Integer.MIN_VALUE, Integer.MAX_VALUE};
        for (String text : new String[] {"[x-z]", "[]", "", "[x", "\\p{any}"}) {
            Scene scene = prepared(text);
            for (int r : wrong) {
                scene.refuses("apply " + r, x -> x.apply(r));
            }
        }
    }

    /** "Register r becomes the value of the TEXT, which stays" */
    private static void textStays() {
        for (String text : new String[] {"[x-z]", "[ x - z ]", "[[x-z]&\\p{any}]", "[xyz" + "x".repeat(55) + "]"}) {
            Scene scene = prepared(text);
            for (int r = 0; r < 3; r++) {
                int register = r;
                scene.sets("apply " + r, r, "120 123", x -> x.apply(register));
                scene.sets("apply twice " + r, r, "120 123", x -> x.apply(register) && x.apply(register));
                scene.sets("print and apply " + r, r, "120 123", x -> applyAgain(x, register, text));
            }
        }
    }

    /** Whether what is printed of a register is a pattern of it again; the TEXT is put back. */
    private static boolean applyAgain(Counted x, int r, String text) {
        boolean done = x.apply(r) && x.print(r) > 0 && x.apply(r);
        Check.write(x, text);
        return done;
    }

    /** What was in the register does not matter, be it nothing, all, or the most that there may be. */
    private static void registerIsReplaced() {
        Scene full = new Scene(CHECK, "full", x -> {
            Check.loadComb(x, 0, 1, 1000, 100);
            Check.load(x, 1, "[" + EIGHT + "]");
            Check.join(x, 0, 1);
            Check.join(x, 1, 0);
            Check.load(x, 2, "[^]");
            Check.write(x, "[y{xy}]");
        });
        for (int r = 0; r < 3; r++) {
            int register = r;
            full.sets("apply " + r, r, "121 122 {xy}", x -> x.apply(register));
        }
    }
}
