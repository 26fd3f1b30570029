/** The boundary cases of promise 18: span. */
public final class BoundarySpanTest {

    private static final Check CHECK = new Check();

    public static void main(String[] args) {
        emptyText();
        fromTheEnd();
        fromOutside();
        noSuchRegister();
        noneAtAll();
        theWholeText();
        theGreatestEnd();
        membersThatWouldGoOn();
        membersOneBehindTheOther();
        theLeastEnd();
        noneBegins();
        stringsAtTheEnd();
        fullText();
        lastCodePoints();
        CHECK.finish();
    }

    /** Register 1 is the pattern, 0 is empty, 2 has all code points. */
    private static Scene with(String pattern, String text) {
        return new Scene(CHECK, pattern + " in " + text, x -> {
            Check.load(x, 1, pattern);
            Check.load(x, 2, "[^]");
            Check.write(x, text);
        });
    }

    private static void spans(String pattern, String text, int from, int in, int out) {
        Scene scene = with(pattern, text);
        int length = text.codePointCount(0, text.length());
        scene.answers("span in from " + from, in, x -> x.span(1, from, true));
        scene.answers("span out from " + from, out, x -> x.span(1, from, false));
        scene.answers("of nothing, in", from, x -> x.span(0, from, true));
        scene.answers("of nothing, out", length, x -> x.span(0, from, false));
        scene.answers("of all, in", length, x -> x.span(2, from, true));
        scene.answers("of all, out", from, x -> x.span(2, from, false));
    }

    private static void emptyText() {
        spans("[]", "", 0, 0, 0);
        spans("[a{ab}]", "", 0, 0, 0);
        spans("[^]", "", 0, 0, 0);
        spans("[\\x{0}{\\x{0}\\x{0}}]", "", 0, 0, 0);
    }

    /** "from <= end <= length()"; "length() if there is none" */
    private static void fromTheEnd() {
        spans("[a]", "aaa", 3, 3, 3);
        spans("[a]", "aaa", 2, 3, 2);
        spans("[b]", "aaa", 3, 3, 3);
        spans("[{aa}]", "aaa", 3, 3, 3);
        spans("[{aa}]", "aaa", 2, 2, 3);
        spans("[{aaa}]", "aaa", 1, 1, 3);
    }

    /** "NONE if .. not 0 <= from <= length()" */
    private static void fromOutside() {
        for (String text : new String[] {"", "a", "aaa", "a".repeat(60)}) {
            Scene scene = with("[a]", text);
            int[] wrong = {
                -1, -2, -60, text.length() + 1, text.length() + 2, 61, 63, 64, 65, Integer.MIN_VALUE,
                Integer.MAX_VALUE};
            for (int from : wrong) {
                for (int r = 0; r < 3; r++) {
                    int register = r;
                    scene.answers("span in from " + from, -1, x -> x.span(register, from, true));
                    scene.answers("span out from " + from, -1, x -> x.span(register, from, false));
                }
            }
            scene.answers("span in from 0", text.length(), x -> x.span(1, 0, true));
            scene.answers("span in from the end", text.length(), x -> x.span(1, text.length(), true));
        }
    }

    /** "NONE if there is no such register" */
    private static void noSuchRegister() {
        int[] wrong = {-1, 3, 4, -2, 256, Integer.MIN_VALUE, Integer.MAX_VALUE};
        for (String text : new String[] {"", "aaa"}) {
            Scene scene = with("[a]", text);
            for (int r : wrong) {
                scene.answers("span in of " + r, -1, x -> x.span(r, 0, true));
                scene.answers("span out of " + r, -1, x -> x.span(r, 0, false));
                scene.answers("span of " + r + " from outside", -1, x -> x.span(r, -1, true));
            }
        }
    }

    /** "none at all for end = from" */
    private static void noneAtAll() {
        spans("[]", "abc", 0, 0, 3);
        spans("[x]", "abc", 0, 0, 3);
        spans("[x]", "abc", 1, 1, 3);
        spans("[b]", "abc", 0, 0, 1);
        spans("[{ba}]", "ab", 0, 0, 2);
    }

    private static void theWholeText() {
        spans("[a-c]", "abc", 0, 3, 0);
        spans("[a-c]", "abc", 1, 3, 1);
        spans("[{ab}{cd}]", "abcd", 0, 4, 0);
        spans("[{abc}]", "abc", 0, 3, 0);
        spans("[{ab}]", "ab", 0, 2, 0);
        spans("[a]", "a", 0, 1, 0);
    }

    /** "the greatest end": a longer member may lead less far than a shorter one, and the other way round. */
    private static void theGreatestEnd() {
        spans("[a{ab}]", "ab", 0, 2, 0);
        spans("[a{abc}]", "abc", 0, 3, 0);
        spans("[ab{ab}]", "abab", 0, 4, 0);
        spans("[a{ab}{bc}]", "abc", 0, 3, 0);
        spans("[{ab}{abc}{cd}]", "abcd", 0, 4, 0);
        spans("[{ab}{abc}{cde}]", "abcde", 0, 5, 0);
        spans("[{ab}{abc}{cde}]", "abcdx", 0, 3, 0);
        spans("[a{aab}]", "aaab", 0, 4, 0);
        spans("[{aa}{aab}]", "aaaab", 0, 5, 0);
        spans("[{aa}{aaa}]", "aaaaaaa", 0, 7, 0);
        spans("[{aa}{aaa}]", "a", 0, 0, 1);
    }

    private static void membersThatWouldGoOn() {
        spans("[{ab}]", "aba", 0, 2, 0);
        spans("[{abc}]", "abcab", 0, 3, 0);
        spans("[{abc}]", "ab", 0, 0, 2);
        spans("[{ab}]", "a", 0, 0, 1);
        spans("[a{bc}]", "aab", 0, 2, 0);
    }

    private static void membersOneBehindTheOther() {
        spans("[a{bc}]", "abcabcb", 0, 6, 0);
        spans("[{ab}]", "aabab", 0, 0, 1);
        spans("[{ab}]", "aabab", 1, 5, 1);
        spans("[a-c]", "abxc", 0, 2, 0);
        spans("[a-c]", "abxc", 3, 4, 3);
        spans("[{ab}{ba}]", "abba", 0, 4, 0);
        spans("[{ab}{ba}]", "abba", 1, 1, 2);
    }

    /** "the least end >= from at which a member begins" */
    private static void theLeastEnd() {
        spans("[x]", "abx", 0, 0, 2);
        spans("[x]", "xbx", 0, 1, 0);
        spans("[x]", "xbx", 1, 1, 2);
        spans("[{bc}]", "abbc", 0, 0, 2);
        spans("[{bcd}]", "abcbcd", 0, 0, 3);
        spans("[c{bc}]", "abc", 0, 0, 1);
        spans("[{ab}b]", "ab", 1, 2, 1);
    }

    /** "length() if there is none" */
    private static void noneBegins() {
        spans("[{bc}]", "abab", 0, 0, 4);
        spans("[{bcd}]", "abcbc", 0, 0, 5);
        spans("[z]", "abc", 0, 0, 3);
        spans("[z]", "abc", 3, 3, 3);
        spans("[a]", "abc", 1, 1, 3);
        spans("[{ab}]", "abc", 1, 1, 3);
    }

    private static void stringsAtTheEnd() {
        spans("[{bc}]", "abc", 0, 0, 1);
        spans("[{bc}]", "ab", 0, 0, 2);
        spans("[{abc}]", "xabc", 0, 0, 1);
        spans("[{abc}]", "xab", 0, 0, 3);
        spans("[{b\\x{0}}]", "ab", 0, 0, 2);
        spans("[{b\\x{0}}]", "ab\u0000", 0, 0, 1);
        spans("[{b\\x{0}\\x{0}}]", "ab\u0000", 0, 0, 3);
    }

    private static void fullText() {
        String sixty = "a".repeat(60);
        spans("[a]", sixty, 0, 60, 0);
        spans("[a]", sixty, 59, 60, 59);
        spans("[a]", sixty, 60, 60, 60);
        spans("[{aa}]", sixty, 0, 60, 0);
        spans("[{aa}]", sixty, 1, 59, 1);
        spans("[{aa}]", sixty, 59, 59, 60);
        spans("[{aaa}]", sixty, 0, 60, 0);
        spans("[{aaa}]", sixty, 1, 58, 1);
        spans("[{aaa}]", sixty, 58, 58, 60);
        spans("[{aaa}]", sixty, 57, 60, 57);
        spans("[{aa}{aaa}]", sixty, 1, 60, 1);
        spans("[{aa}{aaa}]", sixty, 59, 59, 60);
        spans("[b]", "a".repeat(59) + "b", 0, 0, 59);
        spans("[{ab}]", "a".repeat(59) + "b", 0, 0, 58);
        spans("[a]", "a".repeat(59) + "b", 0, 59, 0);
        spans("[b]", sixty, 0, 0, 60);
    }

    private static void lastCodePoints() {
        spans("[\\x{10ffff}]", "\udbff\udfff\udbff\udfff", 0, 2, 0);
        spans("[{\\x{10ffff}\\x{10ffff}}]", "a\udbff\udfff\udbff\udfff", 0, 0, 1);
        spans("[\\x{0}]", "\u0000\u0000", 0, 2, 0);
        spans("[^a]", "ba", 0, 1, 0);
    }
}
