import java.util.Random;

/** Runs of calls on the class and on the plain model, with the same answers due; the same runs each time. */
public final class ReferenceTest {

    // No step makes more calls than this.
    private static final int MOST_OF_A_STEP = 180;

    private final Check check = new Check();
    private final Random random;
    private final PatternMaker maker;
    private Counted x;
    private PlainModel model;
    private int patterns;
    private int accepted;

    private ReferenceTest(long seed) {
        random = new Random(seed);
        maker = new PatternMaker(random);
    }

    public static void main(String[] args) {
        int runs = args.length > 0 ? Integer.parseInt(args[0]) : 1200;
        long seed = args.length > 1 ? Long.parseLong(args[1]) : 20261115L;
        ReferenceTest test = new ReferenceTest(seed);
        for (int run = 0; run < runs; run++) {
            test.run();
        }
        System.out.println(test.accepted + " of " + test.patterns + " texts were patterns");
        test.check.yes("many patterns, many not", test.accepted * 5 > test.patterns
            && test.accepted * 10 < test.patterns * 9);
        test.check.finish();
    }

    private void run() {
        x = new Counted();
        model = new PlainModel();
        boolean many = random.nextInt(4) == 0;
        while (x.callsLeft() >= MOST_OF_A_STEP) {
            if (many && random.nextBoolean()) {
                joinScattered();
            } else {
                step();
            }
        }
        spendTheRest(register());
    }

    private void step() {
        switch (random.nextInt(12)) {
            case 0:
            case 1:
            case 2:
            case 3:
                apply();
                break;
            case 4:
                combine(register(), register(), random.nextInt(4));
                break;
            case 5:
                turnOrClose();
                break;
            case 6:
                print(register());
                break;
            case 7:
            case 8:
                spans();
                break;
            case 9:
                wrongArguments();
                break;
            default:
                ask(register());
                break;
        }
    }

    private int register() {
        return random.nextInt(3);
    }

    private void write(String text) {
        x.wipe();
        model.text.clear();
        text.codePoints().forEach(c -> {
            check.same("type", x.type(c) ? 1 : 0, model.type(c) ? 1 : 0);
        });
    }

    private void apply() {
        String text = maker.make();
        write(text);
        int r = register();
        boolean due = model.apply(r);
        patterns++;
        accepted += due ? 1 : 0;
        check.same("apply " + text, x.apply(r) ? 1 : 0, due ? 1 : 0);
        state(r);
    }

    /** Many single code points, so that there are many ranges. */
    private void joinScattered() {
        StringBuilder row = new StringBuilder("[");
        for (int k = 0; k < 40; k++) {
            row.appendCodePoint(random.nextInt(3) == 0 ? 192 + random.nextInt(64) : 300 + random.nextInt(400));
        }
        write(row.append(']').toString());
        check.same("apply " + row, x.apply(2) ? 1 : 0, model.apply(2) ? 1 : 0);
        combine(random.nextInt(2), 2, random.nextInt(3) == 0 ? 3 : 0);
        turnOrClose();
    }

    private void combine(int r, int s, int how) {
        check.same("combine " + how, x.combine(r, s, how) ? 1 : 0, model.combine(r, s, how) ? 1 : 0);
        state(r);
    }

    private void turnOrClose() {
        int r = register();
        if (random.nextBoolean()) {
            check.same("turn", x.turn(r) ? 1 : 0, model.turn(r) ? 1 : 0);
        } else {
            check.same("close", x.close(r), model.close(r));
        }
        state(r);
    }

    private void print(int r) {
        check.same("print", x.print(r), model.print(r));
        text();
    }

    private void text() {
        int length = model.text.size();
        check.same("length", x.length(), length);
        boolean whole = random.nextInt(3) == 0;
        for (int k = -1; k <= length; k++) {
            if (whole || k < 0 || k >= length - 1 || random.nextInt(10) == 0) {
                check.same("at", x.at(k), model.at(k));
            }
        }
    }

    /** Some edges and the number of strings; the strings themselves where the register can be printed. */
    private void state(int r) {
        check.same("size", x.size(r), model.size(r));
        check.same("strings", x.strings(r), model.strings(r));
        int count = 2 * model.registers[r].ranges();
        int[] places = {-1, 0, random.nextInt(200), random.nextInt(count + 1), count - 1, count};
        for (int k : places) {
            check.same("edge " + k, x.edge(r, k), model.edge(r, k));
        }
        if (model.strings(r) > 0 && random.nextInt(3) == 0) {
            print(r);
        }
    }

    /** What is left of the calls that an object has is spent on all that one register answers. */
    private void spendTheRest(int r) {
        state(r);
        for (int k = 0; k <= 2 * model.registers[r].ranges() && x.callsLeft() > 0; k++) {
            check.same("edge " + k, x.edge(r, k), model.edge(r, k));
        }
        while (x.callsLeft() > 0) {
            int c = random.nextInt(1200);
            check.same("contains " + c, x.contains(r, c) ? 1 : 0, model.contains(r, c) ? 1 : 0);
        }
    }

    private void ask(int r) {
        int s = register();
        check.same("includes", x.includes(r, s) ? 1 : 0, model.includes(r, s) ? 1 : 0);
        int[] near = {0, 1114111, 97, 383, random.nextInt(700), random.nextInt(1114112)};
        for (int c : near) {
            check.same("contains " + c, x.contains(r, c) ? 1 : 0, model.contains(r, c) ? 1 : 0);
        }
        int size = model.size(r);
        int[] ranks = {0, 1, random.nextInt(40), size / 2, size - 1, size};
        for (int i : ranks) {
            check.same("nth " + i, x.nth(r, i), model.nth(r, i));
        }
    }

    private void spans() {
        StringBuilder row = new StringBuilder();
        int length = random.nextInt(5) == 0 ? 60 : random.nextInt(12);
        for (int k = 0; k < length; k++) {
            row.append("aaaabbbccdzK0".charAt(random.nextInt(13)));
        }
        write(row.toString());
        for (int r = 0; r < 3; r++) {
            check.same("has " + row, x.has(r) ? 1 : 0, model.has(r) ? 1 : 0);
            for (int k = 0; k < 8; k++) {
                int from = k == 0 ? 0 : random.nextInt(length + 3) - 1;
                check.same("span in " + row, x.span(r, from, true), model.span(r, from, true));
                check.same("span out " + row, x.span(r, from, false), model.span(r, from, false));
            }
        }
    }

    private int wrongNumber() {
        int[] numbers = {-1, 3, 4, -2, 1114112, Integer.MIN_VALUE, Integer.MAX_VALUE};
        return numbers[random.nextInt(numbers.length)];
    }

    private void wrongArguments() {
        int r = wrongNumber();
        int s = register();
        check.no("apply", x.apply(r));
        check.same("print", x.print(r), -1);
        check.no("combine", x.combine(r, s, 0) || x.combine(s, r, 0));
        int how = wrongNumber();
        check.same("how", x.combine(s, s, how) ? 1 : 0, model.combine(s, s, how) ? 1 : 0);
        check.no("turn", x.turn(r));
        check.same("close", x.close(r), -1);
        check.no("contains", x.contains(r, 97) || x.contains(s, -1) || x.contains(s, 1114112));
        check.no("has", x.has(r));
        check.no("includes", x.includes(r, s) || x.includes(s, r));
        check.same("size", x.size(r), -1);
        check.same("strings", x.strings(r), -1);
        check.same("edge", x.edge(r, 0), -1);
        check.same("nth", x.nth(r, 0), -1);
        check.same("span", x.span(r, 0, random.nextBoolean()), -1);
        check.no("type", x.type(random.nextBoolean() ? -1 : 1114112));
        state(s);
        text();
    }
}
