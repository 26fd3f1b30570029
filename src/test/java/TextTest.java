/** Promises 1 to 5: a new object, type, wipe, length, at. */
public final class TextTest {

    private static final Check CHECK = new Check();

    public static void main(String[] args) {
        newObjectIsEmpty();
        typeAppends();
        typeRefusesWhatIsNoCodePoint();
        typeRefusesWhenFull();
        wipeEmptiesTheTextAlone();
        atAnswersNoneOutside();
        objectsAreApart();
        CHECK.finish();
    }

    private static void newObjectIsEmpty() {
        Counted x = new Counted();
        CHECK.same("new length", x.length(), 0);
        CHECK.same("new at(0)", x.at(0), -1);
        for (int r = 0; r < 3; r++) {
            CHECK.same("new size", x.size(r), 0);
            CHECK.same("new strings", x.strings(r), 0);
            CHECK.same("new edge", x.edge(r, 0), -1);
            CHECK.same("new nth", x.nth(r, 0), -1);
            CHECK.no("new contains", x.contains(r, 0));
        }
    }

    private static void typeAppends() {
        Counted x = new Counted();
        int[] codes = {97, 0, 1114111, 55296, 32, 97};
        for (int k = 0; k < codes.length; k++) {
            CHECK.yes("type " + codes[k], x.type(codes[k]));
            CHECK.same("length", x.length(), k + 1);
        }
        for (int k = 0; k < codes.length; k++) {
            CHECK.same("at " + k, x.at(k), codes[k]);
        }
    }

    private static void typeRefusesWhatIsNoCodePoint() {
        Counted x = new Counted();
        x.type(98);
        int[] wrong = {-1, 1114112, Integer.MIN_VALUE, Integer.MAX_VALUE};
        for (int c : wrong) {
            CHECK.no("type " + c, x.type(c));
            CHECK.same("length behind refused type", x.length(), 1);
            CHECK.same("at behind refused type", x.at(0), 98);
        }
    }

    private static void typeRefusesWhenFull() {
        Counted x = new Counted();
        for (int k = 0; k < 60; k++) {
            CHECK.yes("type into " + k, x.type(1000 + k));
        }
        CHECK.no("type into 60", x.type(97));
        CHECK.same("full length", x.length(), 60);
        CHECK.same("last", x.at(59), 1059);
        CHECK.same("behind last", x.at(60), -1);
        x.wipe();
        CHECK.yes("type after wipe", x.type(97));
        CHECK.same("length after wipe", x.length(), 1);
    }

    private static void wipeEmptiesTheTextAlone() {
        Counted x = new Counted();
        Check.load(x, 1, "[abc]");
        x.wipe();
        CHECK.same("wiped length", x.length(), 0);
        CHECK.same("wiped at", x.at(0), -1);
        CHECK.same("register stays", x.size(1), 3);
        x.wipe();
        CHECK.same("wiped twice", x.length(), 0);
    }

    private static void atAnswersNoneOutside() {
        Counted x = new Counted();
        Check.write(x, "xyz");
        CHECK.same("at 2", x.at(2), 'z');
        int[] outside = {3, 59, 60, 61, -1, Integer.MIN_VALUE, Integer.MAX_VALUE};
        for (int k : outside) {
            CHECK.same("at " + k, x.at(k), -1);
        }
    }

    private static void objectsAreApart() {
        Counted x = new Counted();
        Counted y = new Counted();
        Check.load(x, 0, "[\\p{letter}{ab}]");
        CHECK.same("other length", y.length(), 0);
        CHECK.same("other size", y.size(0), 0);
        CHECK.same("other strings", y.strings(0), 0);
    }
}
