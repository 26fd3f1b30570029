import java.util.Random;

/** Makes texts that are patterns, or nearly so. */
final class PatternMaker {

    private static final String[] NAMES = {
        "any", "ascii", "digit", "hexdigit", "upper", "lower", "letter", "greek", "space", "surrogate"};
    private static final String[] CHARS = {
        "a", "b", "c", "d", "k", "s", "z", "K", "S", "0", "9", ":", "n", "p", "\\n", "\\t", "\\-", "\\]", "\\ ", "\\:",
        "\\u00e5", "\\u03c3", "\\x{17f}", "\\x{10ffff}", "\\x{0}", "\\x{212b}", "\\7", "\u00df", "\u03a3", "A", "Z"};
    private static final String SIGNS = "[]{}-&^\\ :abcpPxunAz019_\u00e5";

    private final Random random;

    PatternMaker(Random random) {
        this.random = random;
    }

    /** At most 60 code points; in about one of three cases something is changed in what was a pattern. */
    String make() {
        String row = setExpression(random.nextInt(8) == 0 ? 6 : 1 + random.nextInt(4));
        for (int tries = 0; tries < 50 && row.length() > 60; tries++) {
            row = setExpression(2);
        }
        if (row.length() > 60) {
            row = "[a-c]";
        }
        for (int k = random.nextInt(3); k == 0 && random.nextInt(4) != 0;) {
            row = changed(row);
        }
        return row;
    }

    private String changed(String row) {
        int place = random.nextInt(row.length() + 1);
        char sign = SIGNS.charAt(random.nextInt(SIGNS.length()));
        String behind = row.substring(place);
        switch (random.nextInt(3)) {
            case 0:
                return row.length() < 60 ? row.substring(0, place) + sign + behind : row;
            case 1:
                return row.substring(0, place) + (behind.isEmpty() ? "" : behind.substring(1));
            default:
                return row.substring(0, place) + (behind.isEmpty() ? "" : sign + behind.substring(1));
        }
    }

    private String setExpression(int deep) {
        return deep > 0 && random.nextInt(5) != 0 ? bracket(deep) : property();
    }

    private String bracket(int deep) {
        StringBuilder row = new StringBuilder(random.nextInt(6) == 0 ? "[^" : "[");
        boolean behindSet = false;
        row.append(random.nextInt(8) == 0 ? blank() + "-" : "");
        for (int k = random.nextInt(5); k > 0; k--) {
            row.append(blank());
            int kind = random.nextInt(10);
            if (behindSet && kind < 6) {
                row.append(random.nextBoolean() ? "&" : "-").append(blank()).append(setExpression(deep - 1));
            } else if (kind < 4 || deep == 0) {
                row.append(character());
                behindSet = false;
            } else if (kind < 6) {
                row.append(range());
                behindSet = false;
            } else if (kind < 8) {
                row.append(string());
                behindSet = false;
            } else {
                row.append(setExpression(deep - 1));
                behindSet = true;
            }
        }
        row.append(blank()).append(random.nextInt(10) == 0 ? "-" + blank() : "");
        return row.append(']').toString();
    }

    private String blank() {
        return random.nextInt(6) == 0 ? " " : "";
    }

    private String character() {
        return CHARS[random.nextInt(CHARS.length)];
    }

    private String range() {
        String[] bounds = {"a-f", "b-k", "0-9", "A-Z", "a-z", "\\x{0}-z", "!-\\-", "k-k", "d - s", "\\u0100-\\x{3ff}"};
        return bounds[random.nextInt(bounds.length)];
    }

    private String string() {
        StringBuilder row = new StringBuilder("{").append(blank());
        for (int k = 1 + random.nextInt(3); k > 0; k--) {
            row.append(random.nextInt(5) == 0 ? character() : "abc".substring(random.nextInt(3)).substring(0, 1));
            row.append(blank());
        }
        return row.append('}').toString();
    }

    private String property() {
        String name = NAMES[random.nextInt(NAMES.length)];
        if (random.nextInt(4) == 0) {
            name = name.substring(0, 1).toUpperCase() + " _-".charAt(random.nextInt(3)) + name.substring(1);
        }
        switch (random.nextInt(8)) {
            case 0:
                return "\\P{" + name + "}";
            case 1:
                return "[:^" + name + ":]";
            case 2:
            case 3:
            case 4:
                return "[:" + name + ":]";
            default:
                return "\\p{" + name + "}";
        }
    }
}
