/** Promise 18: span. */
public final class SpanTest {

    private static final Check CHECK = new Check();

    public static void main(String[] args) {
        within();
        deadEnds();
        without();
        longTexts();
        refuses();
        CHECK.finish();
    }

    private static void spans(String pattern, String text, int from, int in, int out) {
        Counted x = new Counted();
        Check.load(x, 1, pattern);
        Check.write(x, text);
        String what = pattern + " in " + text + " from " + from;
        CHECK.same("span in: " + what, x.span(1, from, true), in);
        CHECK.same("span out: " + what, x.span(1, from, false), out);
        CHECK.same("text stays", Check.text(x), text);
    }

    private static void within() {
        spans("[a-c]", "abcd", 0, 3, 0);
        spans("[a-c]", "abcd", 2, 3, 2);
        spans("[a-c]", "abcd", 3, 3, 4);
        spans("[a-c]", "abcd", 4, 4, 4);
        spans("[a-c]", "", 0, 0, 0);
        spans("[]", "abc", 0, 0, 3);
        spans("[]", "abc", 1, 1, 3);
        spans("[^]", "abc", 0, 3, 0);
        spans("[{ab}]", "ababa", 0, 4, 0);
        spans("[{ab}]", "ababa", 1, 1, 2);
        spans("[{ab}]", "ababa", 4, 4, 5);
        spans("[{abc}]", "abcabcab", 0, 6, 0);
        spans("[{abc}d]", "dabcdab", 0, 5, 0);
    }

    private static void deadEnds() {
        spans("[a{ab}{abc}]", "abcx", 0, 3, 0);
        spans("[a{abc}]", "abcx", 0, 3, 0);
        spans("[a{ab}{bc}]", "abc", 0, 3, 0);
        spans("[{ab}{abc}{cd}]", "abcd", 0, 4, 0);
        spans("[{ab}{abc}{de}]", "abcde", 0, 5, 0);
        spans("[{aa}{aaa}]", "aaaaa", 0, 5, 0);
        spans("[{aa}{aaa}]", "a", 0, 0, 1);
        spans("[{aaa}]", "aaaaa", 0, 3, 0);
        spans("[{ab}{abc}c{cdd}]", "abcd", 0, 3, 0);
        spans("[{ab}{cde}a]", "abcd", 0, 2, 0);
        spans("[a{bc}]", "abab", 0, 1, 0);
    }

    private static void without() {
        spans("[x]", "abxcx", 0, 0, 2);
        spans("[x]", "abxcx", 3, 3, 4);
        spans("[x]", "abxcx", 5, 5, 5);
        spans("[{bc}]", "abbc", 0, 0, 2);
        spans("[{bcd}]", "abcbcd", 0, 0, 3);
        spans("[{bcd}]", "abcbc", 0, 0, 5);
        spans("[{bc}]", "aab", 0, 0, 3);
        spans("[c{bc}]", "abc", 0, 0, 1);
        spans("[\\x{0}{b\\x{0}}]", "ab\u0000", 0, 0, 1);
    }

    private static void longTexts() {
        spans("[a]", "a".repeat(60), 0, 60, 0);
        spans("[a]", "a".repeat(60), 60, 60, 60);
        spans("[{aaa}]", "a".repeat(60), 0, 60, 0);
        spans("[{aaa}]", "a".repeat(59), 0, 57, 0);
        spans("[{aaa}]", "a".repeat(60), 58, 58, 60);
        spans("[{aa}{aaa}]", "a".repeat(59), 0, 59, 0);
        spans("[b]", "a".repeat(59) + "b", 0, 0, 59);
        spans("[b]", "a".repeat(60), 0, 0, 60);
    }

    private static void refuses() {
        Counted x = new Counted();
        Check.load(x, 0, "[a]");
        Check.write(x, "aaa");
        int[] noRegisters = {-1, 3, Integer.MIN_VALUE, Integer.MAX_VALUE};
        for (int r : noRegisters) {
            CHECK.same("span of register " + r, x.span(r, 0, true), -1);
            CHECK.same("span of register " + r, x.span(r, 0, false), -1);
        }
        int[] outside = {-1, 4, 60, 64, 65, Integer.MIN_VALUE, Integer.MAX_VALUE};
        for (int from : outside) {
            CHECK.same("span from " + from, x.span(0, from, true), -1);
            CHECK.same("span from " + from, x.span(0, from, false), -1);
        }
        CHECK.same("span from the end", x.span(0, 3, true), 3);
        CHECK.same("span from the end", x.span(0, 3, false), 3);
    }
}
