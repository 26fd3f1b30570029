/** Promise 7: print. */
public final class PrintTest {

    private static final Check CHECK = new Check();

    public static void main(String[] args) {
        forms();
        codePoints();
        stringOrder();
        lengthLimit();
        wrongRegisters();
        printsAgain();
        CHECK.finish();
    }

    private static void prints(String pattern, String want) {
        Counted x = new Counted();
        Check.load(x, 2, pattern);
        CHECK.same("print of " + pattern, x.print(2), want.length());
        CHECK.same("length", x.length(), want.length());
        CHECK.same("text", Check.text(x), want);
        CHECK.yes("apply of what was printed", x.apply(0));
        CHECK.yes("the same set", x.includes(0, 2) && x.includes(2, 0));
    }

    private static void forms() {
        prints("[]", "[]");
        prints("[a]", "[a]");
        prints("[ab]", "[ab]");
        prints("[abc]", "[a-c]");
        prints("[a-z]", "[a-z]");
        prints("[zya]", "[ayz]");
        prints("[a-ce-gi-jl]", "[a-ce-gijl]");
        prints("[{ab}]", "[{ab}]");
        prints("[{abc}z{ab}]", "[z{ab}{abc}]");
        prints("[^]", "[\\x{0}-\\x{10ffff}]");
        prints("[^\\x{0}]", "[\\x{1}-\\x{10ffff}]");
        prints("[^\\x{2}-\\x{10fffd}]", "[\\x{0}\\x{1}\\x{10fffe}\\x{10ffff}]");
    }

    private static void codePoints() {
        for (int c = 0; c < 300; c++) {
            Counted x = new Counted();
            Check.load(x, 0, "[\\x{" + Integer.toHexString(c) + "}]");
            CHECK.same("print of " + c, Check.printed(x, 0), "[" + form(c) + "]");
        }
        int[] others = {0xfff, 0x1000, 0xffff, 0x10000, 0xfffff, 0x100000, 0x10ffff, 0xabcde};
        for (int c : others) {
            Counted y = new Counted();
            Check.load(y, 0, "[\\x{" + Integer.toHexString(c) + "}]");
            CHECK.same("print of " + c, Check.printed(y, 0), "[" + form(c) + "]");
        }
        prints("[{\\x{0}\\x{0}}]", "[{\\x{0}\\x{0}}]");
        prints("[{\\x{0}\\x{0}\\x{0}}]", "[{\\x{0}\\x{0}\\x{0}}]");
        prints("[{\\x{10ffff}\\x{10ffff}\\x{10ffff}}]", "[{\\x{10ffff}\\x{10ffff}\\x{10ffff}}]");
        prints("[{\\:\\ \\-}]", "[{\\:\\x{20}\\-}]");
    }

    private static String form(int c) {
        if (c < 33 || c > 126) {
            return "\\x{" + Integer.toHexString(c) + "}";
        }
        return ("[]{}-&^\\:".indexOf(c) >= 0 ? "\\" : "") + (char) c;
    }

    private static void stringOrder() {
        prints("[{ba}{ab}{aa}]", "[{aa}{ab}{ba}]");
        prints("[{aab}{ab}{aa}]", "[{aa}{aab}{ab}]");
        prints("[{b\\x{0}}{a\\x{10ffff}}]", "[{a\\x{10ffff}}{b\\x{0}}]");
        prints("[{ab\\x{0}}{ab}{aa\\x{10ffff}}]", "[{aa\\x{10ffff}}{ab}{ab\\x{0}}]");
        prints("[{aa}[{zz}{ab}][{bb}{aaz}]]", "[{aa}{aaz}{ab}{bb}{zz}]");
    }

    private static void lengthLimit() {
        Counted x = new Counted();
        // Five code points of ten signs, and eight of one: sixty with the brackets.
        Check.load(x, 0, "[\\x{100001}\\x{100003}\\x{100005}\\x{100007}\\x{100009}]");
        Check.load(x, 1, "[acegikmo]");
        CHECK.yes("join", x.combine(0, 1, 0));
        CHECK.same("print of sixty", x.print(0), 60);
        Check.load(x, 1, "[q]");
        CHECK.yes("join", x.combine(0, 1, 0));
        Check.write(x, "xyz");
        CHECK.same("print of sixty-one", x.print(0), -1);
        CHECK.same("text behind refused print", Check.text(x), "xyz");
        CHECK.same("register behind refused print", x.size(0), 14);
        Check.loadComb(x, 2, 1, 1000, 100);
        Check.write(x, "");
        CHECK.same("print of a hundred ranges", x.print(2), -1);
        CHECK.same("length behind it", x.length(), 0);
        stringsAtTheLimit();
    }

    private static void stringsAtTheLimit() {
        Counted x = new Counted();
        Check.load(x, 0, "[{\\x{1000}\\x{1000}\\x{1000}}{\\x{1000}\\x{1000}\\x{1001}}acdfg]");
        CHECK.same("print of strings", Check.printed(x, 0),
            "[acdfg{\\x{1000}\\x{1000}\\x{1000}}{\\x{1000}\\x{1000}\\x{1001}}]");
        Check.load(x, 1, "[iklno{zz}]");
        CHECK.yes("join", x.combine(0, 1, 0));
        CHECK.same("print refused", x.print(0), -1);
        CHECK.yes("cut", x.combine(0, 1, 2));
        CHECK.same("print of fifty-nine", x.print(0), 59);
        Check.load(x, 1, "[i]");
        CHECK.yes("join", x.combine(0, 1, 0));
        CHECK.same("print of sixty with strings", x.print(0), 60);
        Check.load(x, 1, "[k]");
        CHECK.yes("join", x.combine(0, 1, 0));
        CHECK.same("print of sixty-one with strings", x.print(0), -1);
    }

    private static void wrongRegisters() {
        Counted x = new Counted();
        Check.write(x, "text");
        int[] wrong = {-1, 3, Integer.MIN_VALUE, Integer.MAX_VALUE};
        for (int r : wrong) {
            CHECK.same("print " + r, x.print(r), -1);
            CHECK.same("text behind print " + r, Check.text(x), "text");
        }
    }

    private static void printsAgain() {
        Counted x = new Counted();
        Check.load(x, 1, "[a-z{ab}]");
        Check.write(x, "something longer than what comes");
        CHECK.same("print over a longer text", x.print(1), 9);
        CHECK.same("text", Check.text(x), "[a-z{ab}]");
        CHECK.same("behind its end", x.at(9), -1);
        CHECK.same("print of an empty one", x.print(0), 2);
        CHECK.same("text", Check.text(x), "[]");
        CHECK.same("the register stays", Check.edges(x, 1), "97 123 strings 1");
    }
}
