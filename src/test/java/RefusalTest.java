/** "A call that is refused changes nothing": each refused call in states of all kinds, and queries as well. */
public final class RefusalTest {

    private static final Check CHECK = new Check();
    private static final int[] NO_REGISTERS = {-1, 3, Integer.MIN_VALUE, Integer.MAX_VALUE};
    private static final String EIGHT = "{aa}{ab}{ac}{ad}{ba}{bb}{bc}{bd}";

    public static void main(String[] args) {
        Scene[] scenes = {empty(), small(), all(), fullText(), full()};
        for (Scene scene : scenes) {
            noCodePoint(scene);
            noRegister(scene);
            noWay(scene);
            queries(scene);
        }
        noPattern();
        noRoomInTheText();
        noRoomForThePattern();
        noRoomInTheRegister();
        stringsCantBeTurned();
        refusedOneBehindTheOther();
        CHECK.finish();
    }

    private static Scene empty() {
        return new Scene(CHECK, "new", x -> { });
    }

    private static Scene small() {
        return new Scene(CHECK, "small", x -> {
            Check.load(x, 0, "[a-ck{ab}{abc}]");
            Check.load(x, 1, "[K-M{ab}]");
            Check.load(x, 2, "[x]");
            Check.write(x, "abc");
        });
    }

    private static Scene all() {
        return new Scene(CHECK, "all code points", x -> {
            Check.load(x, 0, "[^]");
            Check.load(x, 1, "[^a]");
            Check.load(x, 2, "[^\\x{0}\\x{10ffff}]");
            Check.write(x, "[:any:]");
        });
    }

    private static Scene fullText() {
        return new Scene(CHECK, "sixty", x -> {
            Check.load(x, 1, "[ab]");
            Check.write(x, "[" + "ab".repeat(29) + "]");
        });
    }

    private static Scene full() {
        return new Scene(CHECK, "a hundred ranges and eight strings", x -> {
            Check.loadComb(x, 0, 1, 1000, 100);
            Check.load(x, 1, "[k{ca}" + EIGHT.substring(4) + "]");
            Check.load(x, 2, "[" + EIGHT + "]");
            Check.join(x, 0, 2);
            Check.write(x, "[k");
        });
    }

    private static void noCodePoint(Scene scene) {
        int[] wrong = {-1, 1114112, Integer.MIN_VALUE, Integer.MAX_VALUE};
        for (int c : wrong) {
            scene.refuses("type " + c, x -> x.type(c));
        }
    }

    private static void noRegister(Scene scene) {
        for (int r : NO_REGISTERS) {
            scene.refuses("apply " + r, x -> x.apply(r));
            scene.answers("print " + r, -1, x -> x.print(r));
            scene.refuses("turn " + r, x -> x.turn(r));
            scene.answers("close " + r, -1, x -> x.close(r));
            for (int how = 0; how < 4; how++) {
                int way = how;
                scene.refuses("combine " + r + " 0 " + how, x -> x.combine(r, 0, way));
                scene.refuses("combine 1 " + r + " " + how, x -> x.combine(1, r, way));
            }
        }
    }

    private static void noWay(Scene scene) {
        int[] wrong = {-1, 4, Integer.MIN_VALUE, Integer.MAX_VALUE};
        for (int how : wrong) {
            for (int r = 0; r < 3; r++) {
                int register = r;
                scene.refuses("combine " + r + " 1 " + how, x -> x.combine(register, 1, how));
            }
        }
    }

    /** A query changes nothing, whatever it answers. */
    private static void queries(Scene scene) {
        for (int r = -1; r <= 3; r++) {
            int register = r;
            unchanged(scene, "contains", x -> x.contains(register, 'a') ? 1 : 0);
            unchanged(scene, "has", x -> x.has(register) ? 1 : 0);
            unchanged(scene, "includes", x -> x.includes(register, 1) ? 1 : 0);
            unchanged(scene, "includes, the other way", x -> x.includes(1, register) ? 1 : 0);
            unchanged(scene, "size", x -> x.size(register));
            unchanged(scene, "strings", x -> x.strings(register));
            unchanged(scene, "edge", x -> x.edge(register, 1));
            unchanged(scene, "nth", x -> x.nth(register, 1));
            unchanged(scene, "span in", x -> x.span(register, 0, true));
            unchanged(scene, "span out", x -> x.span(register, 0, false));
            unchanged(scene, "span from outside", x -> x.span(register, -1, false));
        }
        unchanged(scene, "length", x -> x.length());
        unchanged(scene, "at", x -> x.at(0));
        unchanged(scene, "at outside", x -> x.at(-1));
    }

    private static void unchanged(Scene scene, String what, Scene.Number call) {
        scene.answers(what, 0, x -> call.on(x) * 0);
    }

    private static void noPattern() {
        String[] texts = {
            "", "[", "[a", "[a]b", "[b-a]", "[^{ab}]", "[[[[[[a]]]]]]", "[{abcd}]", "[:x:]", "[a&[b]]", "[\\q]",
            "[" + EIGHT + "{ca}]", "[a-c[d]&[d]{xy}z", "[[a]-[b]&[c]{xy}^]", "[[a]&", "[[a]-[b",
            "[[[[[a]&[b", "[^a", "[^", "[[^{ab}]"};
        for (String text : texts) {
            Scene scene = new Scene(CHECK, "no pattern: " + text, x -> {
                Check.loadComb(x, 0, 1, 1000, 100);
                Check.load(x, 1, "[^]");
                Check.load(x, 2, "[" + EIGHT + "]");
                Check.write(x, text);
            });
            for (int r = 0; r < 3; r++) {
                int register = r;
                scene.refuses("apply " + r, x -> x.apply(register));
            }
        }
        full().refuses("apply", x -> x.apply(0));
        empty().refuses("apply", x -> x.apply(2));
    }

    private static void noRoomInTheText() {
        fullText().refuses("type 97", x -> x.type(97));
        fullText().refuses("type 0", x -> x.type(0));
        fullText().refuses("type of the last one", x -> x.type(1114111));
    }

    private static void noRoomForThePattern() {
        full().answers("print 0", -1, x -> x.print(0));
        Scene scene = new Scene(CHECK, "sixty-one", x -> {
            Check.load(x, 0, "[\\x{100001}\\x{100003}\\x{100005}\\x{100007}\\x{100009}]");
            Check.load(x, 1, "[acegikmoq]");
            Check.join(x, 1, 0);
            Check.write(x, "[old]");
        });
        scene.answers("print 1", -1, x -> x.print(1));
    }

    private static void noRoomInTheRegister() {
        full().refuses("combine: a range and a string too many", x -> x.combine(0, 1, 0));
        full().refuses("combine, how 3", x -> x.combine(0, 1, 3));
        full().refuses("combine, the other way", x -> x.combine(1, 0, 0));
        full().refuses("combine: a string too many", x -> x.combine(1, 2, 0));
        Scene ranges = new Scene(CHECK, "a hundred ranges", x -> {
            Check.loadComb(x, 0, 1, 1000, 99);
            Check.load(x, 1, "[k]");
            Check.join(x, 0, 1);
            Check.load(x, 1, "[a]");
            Check.load(x, 2, "[^]");
            Check.write(x, "[k]");
        });
        ranges.refuses("combine: a range too many", x -> x.combine(0, 1, 0));
        ranges.refuses("combine, how 2", x -> x.combine(2, 0, 2));
        ranges.refuses("combine, how 3", x -> x.combine(2, 0, 3));
        ranges.refuses("turn", x -> x.turn(0));
        ranges.answers("close", -1, x -> x.close(0));
    }

    private static void stringsCantBeTurned() {
        small().refuses("turn 0", x -> x.turn(0));
        small().refuses("turn 1", x -> x.turn(1));
        full().refuses("turn 0", x -> x.turn(0));
        full().refuses("turn 2", x -> x.turn(2));
    }

    /** Many refusals change as little as one. */
    private static void refusedOneBehindTheOther() {
        full().refuses("all kinds", x -> x.type(-1) || x.apply(0) || x.apply(3) || x.print(0) >= 0 || x.print(-1) >= 0
            || x.combine(0, 1, 0) || x.combine(0, 3, 0) || x.combine(1, 2, 0) || x.combine(0, 1, 4) || x.turn(0)
            || x.turn(3) || x.close(3) >= 0 || x.close(-1) >= 0 || x.apply(2) || x.turn(1));
        fullText().refuses("all kinds", x -> x.type(97) || x.type(-1) || x.apply(-1) || x.print(3) >= 0
            || x.combine(1, 1, -1) || x.combine(-1, 1, 1) || x.turn(-1) || x.close(3) >= 0);
    }
}
