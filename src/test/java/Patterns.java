/** What apply makes of a text, in each register, with the whole state looked at before and behind it. */
final class Patterns {

    private final Check check;

    Patterns(Check check) {
        this.check = check;
    }

    private Scene with(String text) {
        return new Scene(check, text, x -> {
            Check.load(x, 0, "[q-s{uv}]");
            Check.load(x, 1, "[^b]");
            Check.load(x, 2, "[z{ab}{abc}]");
            Check.write(x, text);
        });
    }

    /** None of the texts is a pattern: apply is refused in each register, and nothing changes. */
    void none(String... texts) {
        for (String text : texts) {
            Scene scene = with(text);
            for (int r = 0; r < 3; r++) {
                int register = r;
                scene.refuses("apply " + r, x -> x.apply(register));
            }
        }
    }

    /** The text is a pattern with these edges and strings; but for the register that is named nothing changes. */
    void value(String text, String members) {
        Scene scene = with(text);
        for (int r = 0; r < 3; r++) {
            int register = r;
            scene.sets("apply " + r, r, members, x -> x.apply(register));
        }
    }

    /** The text is a pattern with one code point. */
    void one(String text, int c) {
        value(text, c + " " + (c + 1));
    }

    /** Each text is a pattern, and all have the same members. */
    void same(String members, String... texts) {
        for (String text : texts) {
            value(text, members);
        }
    }
}
