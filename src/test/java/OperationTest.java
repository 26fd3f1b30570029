/** Promises 8 to 10: combine, turn, close. */
public final class OperationTest {

    private static final Check CHECK = new Check();

    public static void main(String[] args) {
        combineAllWays();
        combineWithItself();
        combineRefuses();
        combineRangeLimit();
        combineStringLimit();
        turns();
        turnRefuses();
        closes();
        closesWholeTable();
        closeRefuses();
        CHECK.finish();
    }

    private static void combined(String left, String right, int how, String want) {
        Counted x = new Counted();
        Check.load(x, 0, left);
        Check.load(x, 2, right);
        String before = Check.edges(x, 2);
        Check.write(x, "t");
        CHECK.yes("combine " + left + right + how, x.combine(0, 2, how));
        CHECK.same("text stays", Check.text(x), "t");
        CHECK.same("the second stays", Check.edges(x, 2), before);
        CHECK.same("combine " + left + right + how, Check.printed(x, 0), want);
    }

    private static void combineAllWays() {
        String left = "[a-fx{ab}{cd}]";
        String right = "[d-hz{cd}{abc}]";
        combined(left, right, 0, "[a-hxz{ab}{abc}{cd}]");
        combined(left, right, 1, "[d-f{cd}]");
        combined(left, right, 2, "[a-cx{ab}]");
        combined(left, right, 3, "[a-cghxz{ab}{abc}]");
        combined("[a-c]", "[d-f]", 0, "[a-f]");
        combined("[a-c]", "[d-f]", 1, "[]");
        combined("[a-c]", "[d-f]", 2, "[a-c]");
        combined("[a-c]", "[d-f]", 3, "[a-f]");
        combined("[]", "[a{bc}]", 0, "[a{bc}]");
        combined("[]", "[a{bc}]", 3, "[a{bc}]");
        combined("[a{bc}]", "[]", 2, "[a{bc}]");
        combined("[a{bc}]", "[]", 1, "[]");
        combined("[^]", "[^a]", 3, "[a]");
        combined("[^]", "[^a]", 2, "[a]");
        combined("[^a]", "[a]", 0, "[\\x{0}-\\x{10ffff}]");
        combined("[^a]", "[^]", 1, "[\\x{0}-`b-\\x{10ffff}]");
        combined("[a-z]", "[f-h]", 2, "[a-ei-z]");
        combined("[f-h]", "[a-z]", 2, "[]");
    }

    private static void combineWithItself() {
        String[] want = {"[a-c{de}]", "[a-c{de}]", "[]", "[]"};
        for (int how = 0; how < 4; how++) {
            Counted x = new Counted();
            Check.load(x, 1, "[a-c{de}]");
            CHECK.yes("combine with itself " + how, x.combine(1, 1, how));
            CHECK.same("outcome " + how, Check.printed(x, 1), want[how]);
        }
    }

    private static void combineRefuses() {
        Counted x = new Counted();
        Check.load(x, 0, "[a-c]");
        Check.load(x, 1, "[b]");
        int[] wrong = {-1, 3, Integer.MIN_VALUE, Integer.MAX_VALUE};
        for (int r : wrong) {
            CHECK.no("combine first " + r, x.combine(r, 1, 0));
            CHECK.no("combine second " + r, x.combine(0, r, 2));
        }
        int[] ways = {-1, 4, Integer.MIN_VALUE, Integer.MAX_VALUE};
        for (int how : ways) {
            CHECK.no("combine how " + how, x.combine(0, 1, how));
        }
        CHECK.same("nothing changed", Check.edges(x, 0) + Check.edges(x, 1), "97 100 strings 098 99 strings 0");
    }

    private static void combineRangeLimit() {
        Counted x = new Counted();
        Check.loadComb(x, 0, 1, 1000, 100);
        Check.load(x, 1, "[a]");
        CHECK.no("a hundred and one ranges", x.combine(0, 1, 0));
        CHECK.no("a hundred and one ranges, how 3", x.combine(0, 1, 3));
        CHECK.same("size stays", x.size(0), 100);
        CHECK.same("last edge stays", x.edge(0, 199), 1199);
        CHECK.same("no edge more", x.edge(0, 200), -1);
        Check.load(x, 1, "[^a]");
        CHECK.no("all but a hundred and one", x.combine(1, 0, 2));
        Check.load(x, 1, "[a\\x{3e8}-\\x{3ea}]");
        CHECK.yes("join that closes a gap", x.combine(0, 1, 0));
        CHECK.same("a hundred ranges again", x.edge(0, 199), 1199);
        CHECK.same("first edge", x.edge(0, 0), 97);
        Check.load(x, 1, "[\\x{3e9}]");
        CHECK.no("a cut that makes a range more", x.combine(0, 1, 2));
        twoFullRegisters();
    }

    private static void twoFullRegisters() {
        Counted x = new Counted();
        Check.loadComb(x, 0, 2, 1000, 100);
        Check.loadComb(x, 1, 2, 5000, 100);
        CHECK.no("two hundred ranges, how 0", x.combine(0, 1, 0));
        CHECK.no("two hundred ranges, how 3", x.combine(0, 1, 3));
        CHECK.yes("none in both", x.includes(2, 2) && !x.includes(0, 1));
        CHECK.same("first stays", x.size(0), 100);
        CHECK.yes("how 2", x.combine(0, 1, 2));
        CHECK.same("size", x.size(0), 100);
        CHECK.yes("how 1", x.combine(0, 1, 1));
        CHECK.same("size of nothing", x.size(0), 0);
        CHECK.same("the other is full", x.edge(1, 199), 5199);
    }

    private static void combineStringLimit() {
        Counted x = new Counted();
        String eight = "{aa}{ab}{ac}{ad}{ba}{bb}{bc}{bd}";
        Check.load(x, 0, "[" + eight + "]");
        Check.load(x, 1, "[c{ca}{cb}{cc}{cd}{da}{db}{dc}{dd}]");
        CHECK.no("sixteen strings", x.combine(0, 1, 0));
        CHECK.no("sixteen strings, how 3", x.combine(0, 1, 3));
        CHECK.same("stays", Check.edges(x, 0), "strings 8");
        Check.load(x, 1, "[{aa}{ca}]");
        CHECK.no("nine strings", x.combine(0, 1, 0));
        CHECK.yes("eight strings, how 3", x.combine(0, 1, 3));
        CHECK.same("print", Check.printed(x, 0), "[" + eight.substring(4) + "{ca}]");
        CHECK.yes("eight again", x.combine(0, 0, 0));
        CHECK.same("strings", x.strings(0), 8);
    }

    private static void turned(String pattern, String want) {
        Counted x = new Counted();
        Check.load(x, 1, pattern);
        Check.write(x, "t");
        CHECK.yes("turn of " + pattern, x.turn(1));
        CHECK.same("text stays", Check.text(x), "t");
        CHECK.same("turn of " + pattern, Check.edges(x, 1), want);
        CHECK.same("the others stay", x.size(0) + x.size(2), 0);
        CHECK.yes("turn back", x.turn(1));
        Check.load(x, 2, pattern);
        CHECK.yes("as before", x.includes(1, 2) && x.includes(2, 1));
    }

    private static void turns() {
        turned("[]", "0 1114112 strings 0");
        turned("[^]", "strings 0");
        turned("[a]", "0 97 98 1114112 strings 0");
        turned("[\\x{0}]", "1 1114112 strings 0");
        turned("[\\x{10ffff}]", "0 1114111 strings 0");
        turned("[\\x{0}b\\x{10ffff}]", "1 98 99 1114111 strings 0");
        turned("[a-ce]", "0 97 100 101 102 1114112 strings 0");
    }

    private static void turnRefuses() {
        Counted x = new Counted();
        Check.load(x, 0, "[a{bc}]");
        CHECK.no("turn with a string", x.turn(0));
        CHECK.same("stays", Check.printed(x, 0), "[a{bc}]");
        int[] wrong = {-1, 3, Integer.MIN_VALUE, Integer.MAX_VALUE};
        for (int r : wrong) {
            CHECK.no("turn " + r, x.turn(r));
        }
        Check.loadComb(x, 1, 2, 1000, 100);
        CHECK.no("turn to a hundred and one ranges", x.turn(1));
        CHECK.same("stays", x.size(1), 100);
        CHECK.same("stays", x.edge(1, 0), 1000);
        Check.load(x, 2, "[\\x{3e8}]");
        CHECK.yes("cut", x.combine(1, 2, 2));
        CHECK.yes("turn to a hundred ranges", x.turn(1));
        CHECK.same("size", x.size(1), 1114112 - 99);
        CHECK.same("last edge", x.edge(1, 199), 1114112);
        CHECK.yes("turn back", x.turn(1));
        Check.load(x, 2, "[\\x{0}-\\x{3e8}]");
        CHECK.yes("join", x.combine(1, 2, 0));
        CHECK.yes("turn with the first range at 0", x.turn(1));
        CHECK.same("first edge", x.edge(1, 0), 1001);
    }

    private static void closed(String pattern, int came, String want) {
        Counted x = new Counted();
        Check.load(x, 2, pattern);
        Check.write(x, "t");
        CHECK.same("close of " + pattern, x.close(2), came);
        CHECK.same("text stays", Check.text(x), "t");
        CHECK.same("close of " + pattern, Check.printed(x, 2), want);
        CHECK.same("close again", x.close(2), 0);
        CHECK.same("close again", Check.printed(x, 2), want);
    }

    private static void closes() {
        closed("[]", 0, "[]");
        closed("[a]", 1, "[Aa]");
        closed("[Z]", 1, "[Zz]");
        closed("[@\\[`\\{]", 0, "[@\\[`\\{]");
        closed("[ \\x{bf}\\x{d7}\\x{df}\\x{f7}\\x{ff}]", 0, "[\\x{bf}\\x{d7}\\x{df}\\x{f7}\\x{ff}]");
        closed("[\\x{c0}\\x{f6}]", 2, "[\\x{c0}\\x{d6}\\x{e0}\\x{f6}]");
        closed("[\\x{d8}\\x{fe}]", 2, "[\\x{d8}\\x{de}\\x{f8}\\x{fe}]");
        closed("[k]", 2, "[Kk\\x{212a}]");
        closed("[K]", 2, "[Kk\\x{212a}]");
        closed("[\\x{212a}]", 2, "[Kk\\x{212a}]");
        closed("[s]", 2, "[Ss\\x{17f}]");
        closed("[\\x{17f}]", 2, "[Ss\\x{17f}]");
        closed("[\\x{212b}]", 2, "[\\x{c5}\\x{e5}\\x{212b}]");
        closed("[\\x{e5}]", 2, "[\\x{c5}\\x{e5}\\x{212b}]");
        closed("[\\x{3a3}]", 2, "[\\x{3a3}\\x{3c2}\\x{3c3}]");
        closed("[\\x{3c2}]", 2, "[\\x{3a3}\\x{3c2}\\x{3c3}]");
        closed("[\\x{3b1}\\x{391}]", 0, "[\\x{391}\\x{3b1}]");
        closed("[a-z]", 28, "[A-Za-z\\x{17f}\\x{212a}]");
        closed("[Kk]", 1, "[Kk\\x{212a}]");
        closed("[b{ab}{KK}]", 1, "[Bb{KK}{ab}]");
        closed("[{ab}]", 0, "[{ab}]");
        closed("[^]", 0, "[\\x{0}-\\x{10ffff}]");
    }

    /** For each code point that stands near a letter: what comes with it. */
    private static void closesWholeTable() {
        for (int c = 0; c < 300; c++) {
            int other = partner(c);
            int third = thirdOf(c);
            Counted x = new Counted();
            Check.load(x, 0, "[\\x{" + Integer.toHexString(c) + "}]");
            CHECK.same("close of " + c, x.close(0), (other < 0 ? 0 : 1) + (third < 0 ? 0 : 1));
            CHECK.yes("itself", x.contains(0, c));
            CHECK.yes("its partner " + other, other < 0 || x.contains(0, other));
            CHECK.yes("its third " + third, third < 0 || x.contains(0, third));
        }
    }

    private static int partner(int c) {
        if (c >= 65 && c <= 90 || c >= 192 && c <= 214 || c >= 216 && c <= 222) {
            return c + 32;
        }
        return c >= 97 && c <= 122 || c >= 224 && c <= 246 || c >= 248 && c <= 254 ? c - 32 : -1;
    }

    private static int thirdOf(int c) {
        switch (c) {
            case 75:
            case 107:
                return 8490;
            case 83:
            case 115:
                return 383;
            case 197:
            case 229:
                return 8491;
            default:
                return -1;
        }
    }

    private static void closeRefuses() {
        Counted x = new Counted();
        int[] wrong = {-1, 3, Integer.MIN_VALUE, Integer.MAX_VALUE};
        for (int r : wrong) {
            CHECK.same("close " + r, x.close(r), -1);
        }
        Check.loadComb(x, 0, 1, 1000, 99);
        Check.load(x, 1, "[k]");
        CHECK.yes("a hundred ranges", x.combine(0, 1, 0));
        CHECK.same("close to a hundred and two", x.close(0), -1);
        CHECK.same("stays", x.size(0), 100);
        CHECK.no("stays", x.contains(0, 75));
        CHECK.same("stays", x.edge(0, 0), 107);
        Check.load(x, 1, "[\\x{3e8}\\x{3ea}]");
        CHECK.yes("ninety-eight ranges", x.combine(0, 1, 2));
        CHECK.same("close to a hundred", x.close(0), 2);
        CHECK.same("last edge", x.edge(0, 199), 8491);
        fillsGaps();
    }

    /** What comes may touch what is there: only the ranges at the end count. */
    private static void fillsGaps() {
        Counted x = new Counted();
        Check.loadComb(x, 0, 1, 1000, 96);
        Check.load(x, 1, "[a-zA-JL-RT-Z]");
        CHECK.yes("join to a hundred", x.combine(0, 1, 0));
        CHECK.same("close that fills two gaps", x.close(0), 4);
        CHECK.same("a hundred ranges", x.edge(0, 199), 8491);
        Check.loadComb(x, 2, 1, 1000, 97);
        Check.load(x, 1, "[a-zA-JL-Z]");
        CHECK.yes("join to a hundred", x.combine(2, 1, 0));
        CHECK.same("close that fills one gap", x.close(2), -1);
        CHECK.no("stays", x.contains(2, 75));
        Counted y = new Counted();
        Check.load(y, 0, "\\p{upper}");
        CHECK.same("close of upper", y.close(0), 59);
        CHECK.same("edges of upper closed", Check.edges(y, 0),
            "65 91 97 123 192 215 216 223 224 247 248 255 383 384 8490 8492 strings 0");
    }
}
