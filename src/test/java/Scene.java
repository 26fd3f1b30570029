/**
 * A state to which calls lead, and what one call more answers and changes there. Each part of the state is asked of
 * an object of its own that was led there by the same calls, so that no object has too many.
 */
final class Scene {

    /** Calls that lead to a state. */
    interface Calls {
        void on(Counted x);
    }

    /** A call that answers a number. */
    interface Number {
        int on(Counted x);
    }

    /** A call that answers yes or no. */
    interface Truth {
        boolean on(Counted x);
    }

    private static final int REGISTERS = 3;
    // Behind the registers, in the row of the state's parts.
    private static final int TEXT = 3;

    private final Check check;
    private final String name;
    private final Calls setup;
    private final String[] before;

    Scene(Check check, String name, Calls setup) {
        this.check = check;
        this.name = name;
        this.setup = setup;
        before = parts(setup);
    }

    /** The three registers have these members (edges, then strings), and the TEXT is this. */
    void isAs(String first, String second, String third, String text) {
        compare("", before, new String[] {first, second, third, text});
    }

    /** The call answers false and changes nothing. */
    void refuses(String what, Truth call) {
        answers(what, 0, x -> call.on(x) ? 1 : 0);
    }

    /** The call answers true and changes nothing. */
    void affirms(String what, Truth call) {
        answers(what, 1, x -> call.on(x) ? 1 : 0);
    }

    /** The call answers the number and changes nothing. */
    void answers(String what, int due, Number call) {
        changes(what, due, call, -1, "");
    }

    /** The call answers true; register r has these members then, and nothing else has changed. */
    void sets(String what, int r, String members, Truth call) {
        changes(what, 1, x -> call.on(x) ? 1 : 0, r, members);
    }

    /** The call answers the number; register r has these members then, and nothing else has changed. */
    void sets(String what, int r, String members, int due, Number call) {
        changes(what, due, call, r, members);
    }

    /** The call answers the number; the TEXT is this one then, and nothing else has changed. */
    void writes(String what, String text, int due, Number call) {
        changes(what, due, call, TEXT, text);
    }

    private void changes(String what, int due, Number call, int part, String value) {
        check.same(name + ": " + what, call.on(leadTo(setup)), due);
        String[] wanted = before.clone();
        Calls withCall = x -> {
            setup.on(x);
            call.on(x);
        };
        if (part >= 0) {
            wanted[part] = value;
        } else {
            check.same(name + ": what follows " + what, goOn(leadTo(withCall)), goOn(leadTo(setup)));
        }
        compare(what, parts(withCall), wanted);
    }

    /** What later calls answer, most of which change something; so what is held beside the state is seen, too. */
    private static String goOn(Counted x) {
        StringBuilder row = new StringBuilder();
        row.append(x.span(1, 0, true)).append(' ').append(x.has(0)).append(' ').append(x.includes(0, 1)).append(' ');
        row.append(x.print(2)).append(' ').append(x.apply(0)).append(' ').append(x.includes(0, 2)).append(' ');
        row.append(x.close(1)).append(' ').append(x.combine(0, 1, 3)).append(' ').append(x.edge(0, 0)).append(' ');
        row.append(x.print(1)).append(' ').append(x.apply(2)).append(' ').append(x.turn(2)).append(' ');
        row.append(x.type('a')).append(' ').append(x.apply(1)).append(' ').append(x.combine(1, 2, 1)).append(' ');
        for (int r = 0; r < REGISTERS; r++) {
            row.append(x.size(r)).append(' ').append(x.strings(r)).append(' ').append(x.edge(r, 1)).append(' ');
            row.append(x.nth(r, 2)).append(' ').append(x.contains(r, 'a')).append(' ').append(x.print(r)).append(' ');
            row.append(Check.text(x)).append(' ');
        }
        return row.toString();
    }

    private void compare(String what, String[] got, String[] wanted) {
        for (int part = 0; part < got.length; part++) {
            String place = part == TEXT ? "the TEXT" : "register " + part;
            check.same(name + ": " + place + " behind " + what, got[part], wanted[part]);
        }
    }

    private static Counted leadTo(Calls calls) {
        Counted x = new Counted();
        calls.on(x);
        return x;
    }

    private String[] parts(Calls calls) {
        String[] row = new String[REGISTERS + 1];
        for (int r = 0; r < REGISTERS; r++) {
            row[r] = (edges(leadTo(calls), r) + strings(calls, r)).trim();
        }
        row[TEXT] = Check.text(leadTo(calls));
        return row;
    }

    private String edges(Counted x, int r) {
        StringBuilder row = new StringBuilder();
        int size = 0;
        int k = 0;
        for (int edge = x.edge(r, k); edge != CodePointSets.NONE; edge = x.edge(r, k)) {
            row.append(edge).append(' ');
            size += k % 2 == 0 ? -edge : edge;
            k++;
        }
        check.same(name + ": size(" + r + ")", x.size(r), size);
        return row.toString();
    }

    /** All code points are taken out, so that the strings are what is printed. */
    private String strings(Calls calls, int r) {
        Counted x = leadTo(calls);
        int count = x.strings(r);
        if (count == 0) {
            return "";
        }
        int all = (r + 1) % REGISTERS;
        Check.load(x, all, "[^]");
        if (!x.combine(r, all, 2) || x.print(r) == CodePointSets.NONE) {
            throw new IllegalStateException("the strings can't be told: " + name);
        }
        String printed = Check.text(x);
        // An opening brace stands directly behind a closing one only where a string follows another.
        check.same(name + ": strings(" + r + ")", count, printed.split("\\}\\{").length);
        return printed.substring(1, printed.length() - 1);
    }
}
