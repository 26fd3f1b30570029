/** The boundary cases of promises 8 to 10: combine, turn, close. */
public final class BoundaryOperationTest {

    private static final Check CHECK = new Check();
    private static final int[] NO_REGISTERS = {-1, 3, 4, -2, 256, Integer.MIN_VALUE, Integer.MAX_VALUE};
    private static final String EIGHT = "{aa}{ab}{ac}{ad}{ba}{bb}{bc}{bd}";
    private static final String SEVEN = EIGHT.substring(4);

    public static void main(String[] args) {
        combineWays();
        combineNothingAndAll();
        combineNoSuchWay();
        combineNoSuchRegister();
        combineWithItself();
        combineHundredRanges();
        combineRangesOfWayOne();
        combineRangesOfWayTwo();
        combineRangesOfWayThree();
        combineCountsTheOutcome();
        combineEightStrings();
        combineBothLimits();
        combineStrings();
        turnNothingAndAll();
        turnAtTheBounds();
        turnWithString();
        turnHundredRanges();
        turnNoSuchRegister();
        closeNothing();
        closeNoOthers();
        closeFamilies();
        closeBoundsOfThePairs();
        closeStringsStay();
        closeHundredRanges();
        closeNoSuchRegister();
        CHECK.finish();
    }

    private static Scene with(String first, String second) {
        return new Scene(CHECK, first + " and " + second, x -> {
            Check.load(x, 0, first);
            Check.load(x, 1, second);
            Check.load(x, 2, "[m{mm}]");
            Check.write(x, "[a] is no pattern");
        });
    }

    private static void combined(String first, String second, String... members) {
        Scene scene = with(first, second);
        for (int how = 0; how < 4; how++) {
            int way = how;
            scene.sets("combine " + how, 0, members[how], x -> x.combine(0, 1, way));
        }
    }

    /** The edges of the code points from, from + 2, .. */
    private static String comb(int from, int count) {
        StringBuilder row = new StringBuilder();
        for (int k = 0; k < count; k++) {
            row.append(from + 2 * k).append(' ').append(from + 2 * k + 1).append(' ');
        }
        return row.toString().trim();
    }

    /** "how = 0 what is in r or in s, 1 in both, 2 in r and not in s, 3 in one of them and not in both" */
    private static void combineWays() {
        combined("[a-d]", "[c-f]", "97 103", "99 101", "97 99", "97 99 101 103");
        combined("[a-c]", "[d-f]", "97 103", "", "97 100", "97 103");
        combined("[a-c]", "[e-g]", "97 100 101 104", "", "97 100", "97 100 101 104");
        combined("[a-f]", "[c]", "97 103", "99 100", "97 99 100 103", "97 99 100 103");
        combined("[c]", "[a-f]", "97 103", "99 100", "", "97 99 100 103");
        combined("[a-f]", "[a-c]", "97 103", "97 100", "100 103", "100 103");
        combined("[a-f]", "[d-f]", "97 103", "100 103", "97 100", "97 100");
        combined("[a-f]", "[a-f]", "97 103", "97 103", "", "");
    }

    private static void combineNothingAndAll() {
        combined("[]", "[]", "", "", "", "");
        combined("[]", "[^]", "0 1114112", "", "", "0 1114112");
        combined("[^]", "[]", "0 1114112", "", "0 1114112", "0 1114112");
        combined("[^]", "[^]", "0 1114112", "0 1114112", "", "");
        combined("[^]", "[a]", "0 1114112", "97 98", "0 97 98 1114112", "0 97 98 1114112");
        combined("[^a]", "[a]", "0 1114112", "", "0 97 98 1114112", "0 1114112");
        combined("[^\\x{0}]", "[\\x{0}]", "0 1114112", "", "1 1114112", "0 1114112");
        combined("[^\\x{10ffff}]", "[\\x{10ffff}]", "0 1114112", "", "0 1114111", "0 1114112");
        combined("[\\x{10ffff}]", "[^]", "0 1114112", "1114111 1114112", "", "0 1114111");
    }

    /** "False, refused, if .. how is not 0 .. 3" */
    private static void combineNoSuchWay() {
        int[] wrong = {-1, 4, 5, -4, 256, Integer.MIN_VALUE, Integer.MAX_VALUE};
        Scene scene = with("[a-d{xy}]", "[c-f{xy}{yz}]");
        for (int how : wrong) {
            scene.refuses("combine 0 1 " + how, x -> x.combine(0, 1, how));
            scene.refuses("combine 2 2 " + how, x -> x.combine(2, 2, how));
        }
    }

    /** "False, refused, if r or s is no register" */
    private static void combineNoSuchRegister() {
        Scene scene = with("[a-d{xy}]", "[c-f{xy}{yz}]");
        for (int r : NO_REGISTERS) {
            for (int how = -1; how <= 4; how++) {
                int way = how;
                scene.refuses("combine " + r + " 1 " + how, x -> x.combine(r, 1, way));
                scene.refuses("combine 1 " + r + " " + how, x -> x.combine(1, r, way));
                scene.refuses("combine " + r + " twice " + how, x -> x.combine(r, r, way));
            }
        }
    }

    private static void combineWithItself() {
        Scene small = with("[a-c{de}]", "[]");
        small.affirms("in one or the other", x -> x.combine(0, 0, 0));
        small.affirms("in both", x -> x.combine(0, 0, 1));
        small.sets("not in itself", 0, "", x -> x.combine(0, 0, 2));
        small.sets("in one alone", 0, "", x -> x.combine(0, 0, 3));
        Scene full = full(100, "[" + EIGHT + "]");
        full.affirms("in one or the other", x -> x.combine(0, 0, 0));
        full.affirms("in both", x -> x.combine(0, 0, 1));
        full.sets("not in itself", 0, "", x -> x.combine(0, 0, 2));
        full.sets("in one alone", 0, "", x -> x.combine(0, 0, 3));
    }

    /** Register 0 has the code points 1000, 1002, .. and what the pattern says, register 1 what it says alone. */
    private static Scene full(int count, String pattern) {
        return new Scene(CHECK, count + " and " + pattern, x -> {
            Check.loadComb(x, 0, 1, 1000, count);
            Check.load(x, 1, pattern);
            Check.join(x, 0, 1);
            Check.write(x, "[q]");
        });
    }

    private static Scene beside(int count, String pattern) {
        return new Scene(CHECK, count + " beside " + pattern, x -> {
            Check.loadComb(x, 0, 1, 1000, count);
            Check.load(x, 1, pattern);
            Check.load(x, 2, "[^]");
            Check.write(x, "[q]");
        });
    }

    /** "or there would be more than 100 ranges": 100 are not more. */
    private static void combineHundredRanges() {
        beside(99, "[a]").sets("a hundred", 0, "97 98 " + comb(1000, 99), x -> x.combine(0, 1, 0));
        beside(100, "[a]").refuses("a hundred and one", x -> x.combine(0, 1, 0));
        beside(100, "[a]").refuses("a hundred and one, the other way", x -> x.combine(1, 0, 0));
        beside(98, "[ac]").sets("a hundred", 0, "97 98 99 100 " + comb(1000, 98), x -> x.combine(0, 1, 0));
        beside(99, "[ac]").refuses("a hundred and one", x -> x.combine(0, 1, 0));
        beside(100, "[\\x{10ffff}]").refuses("one behind all", x -> x.combine(0, 1, 0));
        beside(99, "[\\x{10ffff}]").sets("one behind all", 0, comb(1000, 99) + " 1114111 1114112",
            x -> x.combine(0, 1, 0));
        twoFullOnes();
    }

    private static void twoFullOnes() {
        Scene scene = new Scene(CHECK, "two of a hundred", x -> {
            Check.loadComb(x, 0, 2, 1000, 100);
            Check.loadComb(x, 1, 2, 5000, 100);
            Check.load(x, 2, "[q{qq}]");
        });
        scene.refuses("two hundred", x -> x.combine(0, 1, 0));
        scene.refuses("two hundred, the other way", x -> x.combine(1, 0, 0));
        scene.refuses("two hundred, how 3", x -> x.combine(0, 1, 3));
        scene.refuses("a hundred and one", x -> x.combine(0, 2, 0));
        scene.sets("none in both", 0, "", x -> x.combine(0, 1, 1));
        scene.affirms("none goes", x -> x.combine(0, 1, 2));
    }

    /** The members of both are all code points but 50 and some others: as many ranges as gaps, and one more. */
    private static void combineRangesOfWayOne() {
        for (int gaps = 48; gaps <= 51; gaps++) {
            int count = gaps;
            Scene scene = new Scene(CHECK, "50 gaps and " + gaps, x -> {
                Check.loadComb(x, 0, 2, 1000, 50);
                Check.loadComb(x, 1, 2, 5000, count);
                x.turn(0);
                x.turn(1);
                Check.load(x, 2, "[q{qq}]");
            });
            if (gaps < 50) {
                String due = "0 " + comb(1000, 50) + " " + comb(5000, gaps) + " 1114112";
                scene.sets("in both", 0, due, x -> x.combine(0, 1, 1));
            } else {
                scene.refuses("in both", x -> x.combine(0, 1, 1));
                scene.refuses("in both, the other way", x -> x.combine(1, 0, 1));
            }
        }
    }

    private static void combineRangesOfWayTwo() {
        beside(99, "[]").sets("all but 99", 2, "0 " + comb(1000, 99) + " 1114112", x -> x.combine(2, 0, 2));
        beside(100, "[]").refuses("all but 100", x -> x.combine(2, 0, 2));
        Scene cut = beside(99, "[a-c]");
        cut.sets("a hundred", 0, "97 100 " + comb(1000, 99), x -> x.combine(0, 1, 0));
        Scene hundred = new Scene(CHECK, "a hundred and a cut", x -> {
            Check.loadComb(x, 0, 1, 1000, 99);
            Check.load(x, 1, "[a-c]");
            Check.join(x, 0, 1);
            Check.load(x, 1, "[b]");
            Check.load(x, 2, "[c]");
        });
        hundred.refuses("a cut that makes a range more", x -> x.combine(0, 1, 2));
        hundred.sets("a cut that makes none more", 0, "97 99 " + comb(1000, 99), x -> x.combine(0, 2, 2));
    }

    private static void combineRangesOfWayThree() {
        beside(99, "[]").sets("all but 99", 2, "0 " + comb(1000, 99) + " 1114112", x -> x.combine(2, 0, 3));
        beside(100, "[]").refuses("all but 100", x -> x.combine(2, 0, 3));
        beside(100, "[]").refuses("all but 100, the other way", x -> x.combine(0, 2, 3));
        beside(99, "[a]").sets("a hundred", 0, "97 98 " + comb(1000, 99), x -> x.combine(0, 1, 3));
        beside(100, "[a]").refuses("a hundred and one", x -> x.combine(0, 1, 3));
        beside(100, "[a\\x{3e8}]").sets("one goes, one comes", 0, "97 98 " + comb(1002, 99), x -> x.combine(0, 1, 3));
    }

    /** Only what there would be counts: ranges that grow together are one. */
    private static void combineCountsTheOutcome() {
        beside(100, "[a\\x{3e9}]").sets("one comes, two are one", 0, "97 98 1000 1003 " + comb(1004, 98),
            x -> x.combine(0, 1, 0));
        beside(100, "[\\x{3e7}]").sets("one grows in front", 0, "999 1001 " + comb(1002, 99), x -> x.combine(0, 1, 0));
        beside(100, "[\\x{4af}]").sets("one grows behind", 0, comb(1000, 99) + " 1198 1200", x -> x.combine(0, 1, 0));
        beside(100, "[^]").sets("all are one", 0, "0 1114112", x -> x.combine(0, 1, 0));
        beside(100, "[\\x{0}-\\x{10fffe}]").sets("all but one are one", 0, "0 1114111", x -> x.combine(0, 1, 0));
        Scene twice = new Scene(CHECK, "a hundred between a hundred", x -> {
            Check.loadComb(x, 0, 2, 1000, 100);
            Check.loadComb(x, 1, 2, 1001, 100);
            Check.load(x, 2, "[]");
        });
        twice.sets("one range", 0, "1000 1200", x -> x.combine(0, 1, 0));
        twice.sets("one range, how 3", 0, "1000 1200", x -> x.combine(0, 1, 3));
    }

    /** "or there would be more than .. 8 strings": 8 are not more. */
    private static void combineEightStrings() {
        with("[" + SEVEN + "]", "[{aa}]").sets("eight", 0, EIGHT, x -> x.combine(0, 1, 0));
        with("[" + SEVEN + "]", "[{aa}]").sets("eight, how 3", 0, EIGHT, x -> x.combine(0, 1, 3));
        Scene nine = with("[" + EIGHT + "]", "[x{ca}]");
        nine.refuses("nine", x -> x.combine(0, 1, 0));
        nine.refuses("nine, how 3", x -> x.combine(0, 1, 3));
        nine.refuses("nine, the other way", x -> x.combine(1, 0, 0));
        nine.sets("none", 0, "", x -> x.combine(0, 1, 1));
        nine.affirms("eight, how 2", x -> x.combine(0, 1, 2));
        Scene same = with("[" + EIGHT + "]", "[{aa}{ca}]");
        same.refuses("nine", x -> x.combine(0, 1, 0));
        same.sets("eight, how 3", 0, SEVEN + "{ca}", x -> x.combine(0, 1, 3));
        same.sets("seven, how 2", 0, SEVEN, x -> x.combine(0, 1, 2));
        same.sets("one, how 1", 0, "{aa}", x -> x.combine(0, 1, 1));
        with("[" + EIGHT + "]", "[" + SEVEN + "]").affirms("the same ones", x -> x.combine(0, 1, 0));
        Scene sixteen = with("[" + EIGHT + "]", "[{ca}{cb}{cc}{cd}{da}{db}{dc}{dd}]");
        sixteen.refuses("sixteen", x -> x.combine(0, 1, 0));
        sixteen.refuses("sixteen, how 3", x -> x.combine(0, 1, 3));
        sixteen.affirms("eight, how 2", x -> x.combine(0, 1, 2));
    }

    /** One of the limits is enough for a refusal; both may be reached. */
    private static void combineBothLimits() {
        full(100, "[" + SEVEN + "]").isAs(comb(1000, 100) + " " + SEVEN, SEVEN, "", "[q]");
        Scene scene = new Scene(CHECK, "full", x -> {
            Check.loadComb(x, 0, 1, 1000, 99);
            Check.load(x, 1, "[" + SEVEN + "]");
            Check.join(x, 0, 1);
            Check.load(x, 1, "[a{ca}]");
            Check.load(x, 2, "[ac{ca}]");
        });
        scene.sets("both reached", 0, "97 98 " + comb(1000, 99) + " " + SEVEN + "{ca}", x -> x.combine(0, 1, 0));
        scene.refuses("a range too many", x -> x.combine(0, 2, 0));
        Scene more = new Scene(CHECK, "full", x -> {
            Check.loadComb(x, 0, 1, 1000, 99);
            Check.load(x, 1, "[" + SEVEN + "]");
            Check.join(x, 0, 1);
            Check.load(x, 1, "[a{ca}{cb}]");
            Check.load(x, 2, "[ac{ca}{cb}]");
        });
        more.refuses("a string too many", x -> x.combine(0, 1, 0));
        more.refuses("both too many", x -> x.combine(0, 2, 0));
    }

    /** "code points and strings alike" */
    private static void combineStrings() {
        combined("[{ab}{cd}]", "[{cd}{ef}]", "{ab}{cd}{ef}", "{cd}", "{ab}", "{ab}{ef}");
        combined("[{ab}]", "[{abc}]", "{ab}{abc}", "", "{ab}", "{ab}{abc}");
        combined("[{ab}]", "[ab]", "97 99 {ab}", "", "{ab}", "97 99 {ab}");
        combined("[{ab}]", "[^]", "0 1114112 {ab}", "", "{ab}", "0 1114112 {ab}");
        combined("[^]", "[{ab}]", "0 1114112 {ab}", "", "0 1114112", "0 1114112 {ab}");
        combined("[{\\x{0}\\x{0}}]", "[{\\x{0}\\x{0}\\x{0}}]", "{\\x{0}\\x{0}}{\\x{0}\\x{0}\\x{0}}", "",
            "{\\x{0}\\x{0}}", "{\\x{0}\\x{0}}{\\x{0}\\x{0}\\x{0}}");
    }

    private static void turned(String pattern, String members) {
        Scene scene = with(pattern, "[x{xy}]");
        scene.sets("turn", 0, members, x -> x.turn(0));
        scene.affirms("turn twice", x -> x.turn(0) && x.turn(0));
    }

    /** "Register r becomes all code points that are not in it" */
    private static void turnNothingAndAll() {
        turned("[]", "0 1114112");
        turned("[^]", "");
        turned("[a]", "0 97 98 1114112");
        turned("[a-c]", "0 97 100 1114112");
        turned("[ac]", "0 97 98 99 100 1114112");
    }

    private static void turnAtTheBounds() {
        turned("[\\x{0}]", "1 1114112");
        turned("[\\x{10ffff}]", "0 1114111");
        turned("[\\x{0}\\x{10ffff}]", "1 1114111");
        turned("[^\\x{0}]", "0 1");
        turned("[^\\x{10ffff}]", "1114111 1114112");
        turned("[\\x{1}]", "0 1 2 1114112");
        turned("[\\x{10fffe}]", "0 1114110 1114111 1114112");
        turned("[\\x{0}-a]", "98 1114112");
        turned("[a-\\x{10ffff}]", "0 97");
    }

    /** "false, refused, if .. it has a string" */
    private static void turnWithString() {
        for (String pattern : new String[] {"[{ab}]", "[{abc}]", "[a{ab}]", "[[^a]{ab}]", "[" + EIGHT + "]"}) {
            Scene scene = with(pattern, pattern);
            for (int r = 0; r < 3; r++) {
                int register = r;
                scene.refuses("turn " + r, x -> x.turn(register));
            }
        }
        Scene gone = with("[a{ab}]", "[{ab}]");
        gone.sets("turn behind the string's end", 0, "0 97 98 1114112", x -> x.combine(0, 1, 2) && x.turn(0));
    }

    /** "false, refused, if .. there would be more than 100 ranges": 100 are not more. */
    private static void turnHundredRanges() {
        beside(100, "[]").refuses("turn to a hundred and one", x -> x.turn(0));
        beside(99, "[]").sets("turn to a hundred", 0, "0 " + comb(1000, 99) + " 1114112", x -> x.turn(0));
        full(99, "[\\x{0}]").sets("a hundred to a hundred, from 0", 0, "1 " + comb(1000, 99) + " 1114112",
            x -> x.turn(0));
        full(99, "[\\x{10ffff}]").sets("a hundred to a hundred, to the last", 0, "0 " + comb(1000, 99) + " 1114111",
            x -> x.turn(0));
        full(98, "[\\x{0}\\x{10ffff}]").sets("a hundred to ninety-nine", 0, "1 " + comb(1000, 98) + " 1114111",
            x -> x.turn(0));
        full(98, "[\\x{0}\\x{10ffff}]").affirms("and back", x -> x.turn(0) && x.turn(0));
        full(99, "[\\x{1}]").refuses("a hundred that begin with 1", x -> x.turn(0));
        full(99, "[\\x{10fffe}]").refuses("a hundred that end before the last", x -> x.turn(0));
        full(100, "[{ab}]").refuses("a string and too many", x -> x.turn(0));
    }

    /** "false, refused, if there is no such register" */
    private static void turnNoSuchRegister() {
        for (int r : NO_REGISTERS) {
            with("[a]", "[]").refuses("turn " + r, x -> x.turn(r));
        }
    }

    private static void closed(String pattern, String members, int came) {
        Scene scene = with(pattern, "[k]");
        scene.sets("close", 0, members, came, x -> x.close(0));
        scene.sets("close twice", 0, members, 0, x -> x.close(0) >= 0 ? x.close(0) : -2);
    }

    /** "answers how many came": none from nothing, none to all. */
    private static void closeNothing() {
        closed("[]", "", 0);
        closed("[^]", "0 1114112", 0);
        closed("[0-9]", "48 58", 0);
        closed("[Aa]", "65 66 97 98", 0);
        closed("[Kk\\u212a]", "75 76 107 108 8490 8491", 0);
    }

    /** "No others are": the set of all code points that are alike to no other stays as it is. */
    private static void closeNoOthers() {
        String cased = "A-Za-z\u00c0-\u00d6\u00d8-\u00de\u00e0-\u00f6\u00f8-\u00fe\u017f\u03a3\u03c2\u03c3\u212a\u212b";
        String edges = "65 91 97 123 192 215 216 223 224 247 248 255 383 384 931 932 962 964 8490 8492";
        closed("[" + cased + "]", edges, 0);
        closed("[^" + cased + "]", "0 " + edges + " 1114112", 0);
        closed("[\\x{10ffff}]", "1114111 1114112", 0);
        closed("[\\x{0}]", "0 1", 0);
        closed("[\u0391\u03b1\u03a9\u03c9]", "913 914 937 938 945 946 969 970", 0);
        closed("[\u0130\u0131\u0178\u00b5\u03bc\u1e9e]", "181 182 304 306 376 377 956 957 7838 7839", 0);
    }

    /** "and so are all of 75, 107, 8490; of 83, 115, 383; of 197, 229, 8491; of 931, 962, 963" */
    private static void closeFamilies() {
        int[] families = {75, 107, 8490, 83, 115, 383, 197, 229, 8491, 931, 962, 963};
        for (int k = 0; k < families.length; k += 3) {
            int a = families[k];
            int b = families[k + 1];
            int c = families[k + 2];
            String members = members(a, b, c);
            closed("[" + sign(a) + "]", members, 2);
            closed("[" + sign(b) + "]", members, 2);
            closed("[" + sign(c) + "]", members, 2);
            closed("[" + sign(a) + sign(b) + "]", members, 1);
            closed("[" + sign(a) + sign(c) + "]", members, 1);
            closed("[" + sign(b) + sign(c) + "]", members, 1);
            closed("[" + sign(a) + sign(b) + sign(c) + "]", members, 0);
        }
    }

    private static String sign(int c) {
        return Character.toString(c);
    }

    /** The edges of three code points that rise. */
    private static String members(int a, int b, int c) {
        String pair = c == b + 1 ? b + " " + (c + 1) : b + " " + (b + 1) + " " + c + " " + (c + 1);
        return a + " " + (a + 1) + " " + pair;
    }

    /** "c and c + 32 are alike for c = 65 .. 90, 192 .. 214, 216 .. 222" */
    private static void closeBoundsOfThePairs() {
        int[] bounds = {65, 66, 74, 76, 82, 84, 89, 90, 192, 193, 196, 198, 213, 214, 216, 217, 221, 222};
        for (int c : bounds) {
            String members = c + " " + (c + 1) + " " + (c + 32) + " " + (c + 33);
            closed("[" + sign(c) + "]", members, 1);
            closed("[" + sign(c + 32) + "]", members, 1);
        }
        int[] alone = {32, 33, 58, 59, 64, 91, 96, 123, 190, 191, 215, 223, 247, 255};
        for (int c : alone) {
            closed("[\\" + sign(c) + "]", c + " " + (c + 1), 0);
        }
        closed("\\p{upper}", "65 91 97 123 192 215 216 223 224 247 248 255 383 384 8490 8492", 59);
        closed("\\p{lower}", "65 91 97 123 192 215 216 247 248 256 383 384 8490 8492", 59);
        closed("\\p{greek}", "880 1024", 0);
    }

    /** "(its strings stay)" */
    private static void closeStringsStay() {
        closed("[{ab}]", "{ab}", 0);
        closed("[b{ab}{Kk}]", "66 67 98 99 {Kk}{ab}", 1);
        closed("[b" + EIGHT + "]", "66 67 98 99 " + EIGHT, 1);
        closed("[{\u212as}]", "{\\x{212a}s}", 0);
    }

    /** "NONE, refused, if .. there would be more than 100 ranges": 100 are not more. */
    private static void closeHundredRanges() {
        full(98, "[a]").sets("a hundred", 0, "65 66 97 98 " + comb(1000, 98), 1, x -> x.close(0));
        full(98, "[A]").sets("a hundred", 0, "65 66 97 98 " + comb(1000, 98), 1, x -> x.close(0));
        full(99, "[a]").answers("a hundred and one", -1, x -> x.close(0));
        full(97, "[k]").sets("a hundred of three", 0, "75 76 107 108 " + comb(1000, 97) + " 8490 8491", 2,
            x -> x.close(0));
        full(98, "[k]").answers("a hundred and one of three", -1, x -> x.close(0));
        full(99, "[k]").answers("a hundred and two", -1, x -> x.close(0));
        full(99, "[0]").answers("a hundred that stay", 0, x -> x.close(0));
        full(100, "[]").answers("a hundred that stay", 0, x -> x.close(0));
        full(98, "[aA]").answers("a hundred that stay", 0, x -> x.close(0));
        full(96, "[a-zB-JL-RT-Z]").sets("five that come, a hundred still", 0,
            "65 91 97 123 383 384 " + comb(1000, 96) + " 8490 8491", 5, x -> x.close(0));
        full(97, "[a-zB-Z]").answers("one that touches and two more", -1, x -> x.close(0));
        full(97, "[a-eA-CE]").sets("one that fills a gap", 0, "65 70 97 102 " + comb(1000, 97), 1, x -> x.close(0));
        full(96, "[a-eACE]").sets("two that fill gaps", 0, "65 70 97 102 " + comb(1000, 96), 2, x -> x.close(0));
        full(98, "[aB]").sets("two that touch", 0, "65 67 97 99 " + comb(1000, 98), 2, x -> x.close(0));
        full(98, "[a" + EIGHT + "]").sets("a hundred and eight strings", 0,
            "65 66 97 98 " + comb(1000, 98) + " " + EIGHT, 1, x -> x.close(0));
        full(99, "[a" + EIGHT + "]").answers("a hundred and one, eight strings", -1, x -> x.close(0));
    }

    /** "NONE, refused, if there is no such register" */
    private static void closeNoSuchRegister() {
        for (int r : NO_REGISTERS) {
            with("[a]", "[k]").answers("close " + r, -1, x -> x.close(r));
        }
    }
}
