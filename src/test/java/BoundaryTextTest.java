/** The boundary cases of promises 1 to 5: a new object, type, wipe, length, at. */
public final class BoundaryTextTest {

    private static final Check CHECK = new Check();
    private static final String SIXTY = "0123456789".repeat(6);

    public static void main(String[] args) {
        newObject();
        newObjectAnswers();
        newObjectCanBeChanged();
        typeTakesAllCodePoints();
        typeRefusesWhatIsNoCodePoint();
        typeTakesTheSixtieth();
        typeRefusesTheSixtyFirst();
        wipeOfAnyLength();
        wipeForgetsTheOldText();
        lengths();
        lengthFollowsTheOtherCalls();
        atOfTheEmptyText();
        atOnBothSidesOfTheBounds();
        atOfTheFullText();
        rightUpToTheLastCall();
        CHECK.finish();
    }

    private static Scene with(String text) {
        return new Scene(CHECK, "[" + text.length() + "] " + text, x -> {
            Check.load(x, 0, "[a-c{xy}]");
            Check.load(x, 1, "[^b]");
            Check.load(x, 2, "[]");
            Check.write(x, text);
        });
    }

    private static int wipe(Counted x) {
        x.wipe();
        return 0;
    }

    /** "All registers and the TEXT empty." */
    private static void newObject() {
        Scene scene = new Scene(CHECK, "new", x -> { });
        scene.isAs("", "", "", "");
        scene.answers("length", 0, x -> x.length());
        for (int r = 0; r < 3; r++) {
            int register = r;
            scene.answers("size", 0, x -> x.size(register));
            scene.answers("strings", 0, x -> x.strings(register));
            scene.answers("edge", -1, x -> x.edge(register, 0));
            scene.answers("nth", -1, x -> x.nth(register, 0));
        }
    }

    /** What the other promises say of no members and of an empty TEXT. */
    private static void newObjectAnswers() {
        Scene scene = new Scene(CHECK, "new", x -> { });
        for (int r = 0; r < 3; r++) {
            int register = r;
            scene.refuses("apply of the empty TEXT", x -> x.apply(register));
            scene.refuses("has", x -> x.has(register));
            scene.refuses("contains 0", x -> x.contains(register, 0));
            scene.refuses("contains the last", x -> x.contains(register, 1114111));
            scene.answers("span in", 0, x -> x.span(register, 0, true));
            scene.answers("span out", 0, x -> x.span(register, 0, false));
            scene.answers("close", 0, x -> x.close(register));
            for (int s = 0; s < 3; s++) {
                int other = s;
                scene.affirms("includes", x -> x.includes(register, other));
                for (int how = 0; how < 4; how++) {
                    int way = how;
                    scene.affirms("combine", x -> x.combine(register, other, way));
                }
            }
        }
    }

    private static void newObjectCanBeChanged() {
        Scene scene = new Scene(CHECK, "new", x -> { });
        for (int r = 0; r < 3; r++) {
            int register = r;
            scene.writes("print", "[]", 2, x -> x.print(register));
            scene.sets("turn", r, "0 1114112", x -> x.turn(register));
        }
        scene.writes("type", "\u0000", 1, x -> x.type(0) ? 1 : 0);
        scene.writes("wipe", "", 0, BoundaryTextTest::wipe);
    }

    /** "CODE POINTS are 0 .. 1114111." */
    private static void typeTakesAllCodePoints() {
        int[] codes = {0, 1, 31, 32, 127, 128, 255, 256, 55295, 55296, 57343, 57344, 65535, 65536, 1114110, 1114111};
        Scene[] scenes = {with(""), with("x"), with("x".repeat(59))};
        for (int c : codes) {
            for (Scene scene : scenes) {
                scene.answers("type " + c, c, x -> typedAndTaken(x, c));
            }
        }
        for (int c : codes) {
            with("").writes("type " + c, Character.toString(c), 1, x -> x.type(c) ? 1 : 0);
        }
    }

    /** The code point that was appended; the TEXT is what it was. */
    private static int typedAndTaken(Counted x, int c) {
        String before = Check.text(x);
        int length = before.length();
        int found = x.type(c) && x.length() == length + 1 ? x.at(length) : -2;
        Check.write(x, before);
        return found;
    }

    /** "false, refused, if c is none" */
    private static void typeRefusesWhatIsNoCodePoint() {
        int[] wrong = {-1, -2, 1114112, 1114113, 0x1fffff, Integer.MIN_VALUE, Integer.MAX_VALUE};
        Scene[] scenes = {with(""), with("ab"), with(SIXTY.substring(1)), with(SIXTY)};
        for (int c : wrong) {
            for (Scene scene : scenes) {
                scene.refuses("type " + c, x -> x.type(c));
            }
        }
    }

    /** "one TEXT of at most 60 code points": the sixtieth still comes. */
    private static void typeTakesTheSixtieth() {
        with(SIXTY.substring(0, 58)).writes("type", SIXTY.substring(0, 58) + "z", 1, x -> x.type('z') ? 1 : 0);
        with(SIXTY.substring(0, 59)).writes("type", SIXTY.substring(0, 59) + "z", 1, x -> x.type('z') ? 1 : 0);
        with(SIXTY.substring(0, 59)).writes("type of two", SIXTY.substring(0, 59) + "y", 1,
            x -> x.type('y') && !x.type('z') ? 1 : 0);
    }

    /** "false, refused, if .. the TEXT has 60" */
    private static void typeRefusesTheSixtyFirst() {
        int[] codes = {0, 'a', '9', 1114111};
        for (int c : codes) {
            with(SIXTY).refuses("type " + c, x -> x.type(c));
            with("\udbff\udfff".repeat(60)).refuses("type " + c, x -> x.type(c));
        }
        Scene printed = new Scene(CHECK, "sixty printed", x -> {
            Check.load(x, 0, "[!#%')+/13579;=?ACEGIKMOQSUWY_acegikmoqsuwy|~{ab}{abc}{abd}]");
            x.print(0);
        });
        printed.answers("length", 60, x -> x.length());
        printed.refuses("type", x -> x.type('a'));
    }

    /** "The TEXT becomes empty", whatever it was, and nothing else does. */
    private static void wipeOfAnyLength() {
        String[] texts = {"", "a", "[a]", SIXTY.substring(1), SIXTY};
        for (String text : texts) {
            with(text).writes("wipe", "", 0, BoundaryTextTest::wipe);
        }
        with("").answers("wipe twice", 0, x -> wipe(x) + wipe(x));
    }

    private static void wipeForgetsTheOldText() {
        with(SIXTY).writes("wipe and type", "z", 1, x -> wipe(x) == 0 && x.type('z') ? 1 : 0);
        with(SIXTY).writes("at behind wipe", "", -1, x -> wipe(x) + x.at(0));
        with(SIXTY).writes("length behind wipe", "", 0, x -> wipe(x) + x.length());
        with("xy").writes("has behind wipe", "", 0, x -> wipe(x) == 0 && x.has(0) ? 1 : 0);
        with("[a]").writes("apply behind wipe", "", 0, x -> wipe(x) == 0 && x.apply(0) ? 1 : 0);
    }

    /** "The number of code points of the TEXT": from none to 60, each one counted once. */
    private static void lengths() {
        for (int length = 0; length <= 60; length++) {
            int due = length;
            with("a".repeat(length)).answers("length", due, x -> x.length());
        }
        Counted x = new Counted();
        Check.write(x, "\udbff\udfff".repeat(60));
        CHECK.same("length of 60 of the last code point", x.length(), 60);
    }

    private static void lengthFollowsTheOtherCalls() {
        Counted x = new Counted();
        Check.load(x, 0, "[a]");
        CHECK.same("length behind apply", x.length(), 3);
        CHECK.same("print", x.print(1), 2);
        CHECK.same("length behind print", x.length(), 2);
        CHECK.same("refused print", x.print(3), -1);
        CHECK.same("length behind refused print", x.length(), 2);
        CHECK.no("refused type", x.type(-1));
        CHECK.same("length behind refused type", x.length(), 2);
        x.wipe();
        CHECK.same("length behind wipe", x.length(), 0);
    }

    /** "NONE if there is none": an empty TEXT has none. */
    private static void atOfTheEmptyText() {
        int[] places = {0, -1, 1, 59, 60, Integer.MIN_VALUE, Integer.MAX_VALUE};
        for (int k : places) {
            with("").answers("at " + k, -1, x -> x.at(k));
            CHECK.same("at of a new object", new Counted().at(k), -1);
        }
    }

    /** "Code point k of the TEXT; NONE if there is none." */
    private static void atOnBothSidesOfTheBounds() {
        Scene scene = with("abc");
        scene.answers("at 0", 'a', x -> x.at(0));
        scene.answers("at 2", 'c', x -> x.at(2));
        int[] wrong = {-1, 3, 4, 59, 60, 61, Integer.MIN_VALUE, Integer.MAX_VALUE};
        for (int k : wrong) {
            scene.answers("at " + k, -1, x -> x.at(k));
        }
        Scene zero = with("\u0000");
        zero.answers("at of 0", 0, x -> x.at(0));
        zero.answers("at behind 0", -1, x -> x.at(1));
    }

    private static void atOfTheFullText() {
        Scene scene = with(SIXTY);
        for (int k = 0; k < 60; k++) {
            int place = k;
            scene.answers("at " + k, '0' + k % 10, x -> x.at(place));
        }
        int[] wrong = {-1, 60, 61, 64, -60};
        for (int k : wrong) {
            scene.answers("at " + k, -1, x -> x.at(k));
        }
    }

    /** "An object is used for at most 512 calls": the last of them is answered as the first. */
    private static void rightUpToTheLastCall() {
        Counted x = new Counted();
        Check.load(x, 0, "[[a-z]-[aeiou]{ab}]");
        while (x.callsLeft() > 12) {
            CHECK.yes("apply", x.apply(1));
            CHECK.yes("combine", x.combine(2, 1, 0));
            CHECK.same("close", x.close(2) >= 0 ? 1 : 0, 1);
            CHECK.yes("includes", x.includes(2, 1));
        }
        CHECK.same("print", x.print(1), 21);
        CHECK.same("text", x.at(1), 'b');
        while (x.callsLeft() > 1) {
            CHECK.same("size", x.size(0), 21);
        }
        CHECK.same("the last call", x.span(0, 1, true), 2);
        CHECK.same("calls left", x.callsLeft(), 0);
        Counted y = new Counted();
        for (int k = 0; k < 256; k++) {
            CHECK.yes("type", y.type(k));
            y.wipe();
        }
        CHECK.same("calls left", y.callsLeft(), 0);
    }
}
