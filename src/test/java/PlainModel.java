import java.util.ArrayList;
import java.util.BitSet;
import java.util.List;
import java.util.Locale;
import java.util.Map;
import java.util.TreeSet;

/** The document said again in the plainest way: sets as bits and lists, patterns read in every way that there is. */
final class PlainModel {

    static final int LIMIT = 1114112;

    static final Map<String, int[]> NAMES = Map.of(
        "any", new int[] {0, 1114111},
        "ascii", new int[] {0, 127},
        "digit", new int[] {48, 57},
        "hexdigit", new int[] {48, 57, 65, 70, 97, 102},
        "upper", new int[] {65, 90, 192, 214, 216, 222},
        "lower", new int[] {97, 122, 223, 246, 248, 255},
        "letter", new int[] {
            65, 90, 97, 122, 170, 170, 181, 181, 186, 186, 192, 214, 216, 246, 248, 255, 880, 1023},
        "greek", new int[] {880, 1023},
        "space", new int[] {9, 13, 32, 32, 133, 133, 160, 160},
        "surrogate", new int[] {55296, 57343});

    /** A set's members. */
    static final class Members {
        final BitSet codes = new BitSet();
        final TreeSet<List<Integer>> strings = new TreeSet<>(PlainModel::compareStrings);

        Members copy() {
            Members other = new Members();
            other.codes.or(codes);
            other.strings.addAll(strings);
            return other;
        }

        int ranges() {
            int count = 0;
            for (int c = codes.nextSetBit(0); c >= 0; c = codes.nextSetBit(codes.nextClearBit(c))) {
                count++;
            }
            return count;
        }

        boolean sameAs(Members other) {
            return codes.equals(other.codes) && new ArrayList<>(strings).equals(new ArrayList<>(other.strings));
        }

        Members others() {
            Members all = new Members();
            all.codes.or(codes);
            all.codes.flip(0, LIMIT);
            return all;
        }
    }

    /** One way in which a part of the text can be read: where it ends and what it says. */
    private record Reading(int end, Members value) {
    }

    private record Char(int end, int code) {
    }

    /** An item: where it ends, its sign (0 if none), what it says, and whether it ends with a set expression. */
    private record Item(int end, char sign, Members value, boolean endsWithSet) {
    }

    final List<Integer> text = new ArrayList<>();
    final Members[] registers = {new Members(), new Members(), new Members()};

    static int compareStrings(List<Integer> a, List<Integer> b) {
        for (int k = 0; k < a.size() && k < b.size(); k++) {
            if (!a.get(k).equals(b.get(k))) {
                return Integer.compare(a.get(k), b.get(k));
            }
        }
        return Integer.compare(a.size(), b.size());
    }

    boolean type(int c) {
        if (c < 0 || c >= LIMIT || text.size() >= 60) {
            return false;
        }
        text.add(c);
        return true;
    }

    int at(int k) {
        return k >= 0 && k < text.size() ? text.get(k) : -1;
    }

    private boolean noRegister(int r) {
        return r < 0 || r > 2;
    }

    boolean apply(int r) {
        Members value = noRegister(r) ? null : pattern();
        if (value == null) {
            return false;
        }
        registers[r] = value.copy();
        return true;
    }

    /** The value of the text, or null if it is no pattern. */
    Members pattern() {
        Members found = null;
        for (Reading reading : setExpressions(0, 0)) {
            if (reading.end() == text.size()) {
                if (found != null && !found.sameAs(reading.value())) {
                    throw new IllegalStateException("two values of one text: " + text);
                }
                found = reading.value();
            }
        }
        return found;
    }

    private List<Reading> setExpressions(int from, int depth) {
        List<Reading> readings = new ArrayList<>(properties(from));
        if (at(from) == '[' && at(from + 1) != ':' && depth < 5) {
            boolean turned = at(from + 1) == '^';
            bracketRest(from + (turned ? 2 : 1), depth + 1, turned, new Members(), null, true, readings);
        }
        return readings;
    }

    private void bracketRest(int from, int depth, boolean turned, Members soFar, Item before, boolean first,
            List<Reading> readings) {
        int start = skipSpaces(from);
        if (at(start) == ']') {
            if (!turned) {
                readings.add(new Reading(start + 1, soFar));
            } else if (soFar.strings.isEmpty()) {
                readings.add(new Reading(start + 1, soFar.others()));
            }
            return;
        }
        for (Item item : items(start, depth, before, first)) {
            Members value = soFar.copy();
            work(value, item.sign(), item.value());
            if (value.strings.size() <= 8) {
                bracketRest(item.end(), depth, turned, value, item, false, readings);
            }
        }
    }

    private static void work(Members value, char sign, Members item) {
        if (sign == '&') {
            value.codes.and(item.codes);
            value.strings.retainAll(item.strings);
        } else if (sign == '-') {
            value.codes.andNot(item.codes);
            value.strings.removeAll(item.strings);
        } else {
            value.codes.or(item.codes);
            value.strings.addAll(item.strings);
        }
    }

    private List<Item> items(int from, int depth, Item before, boolean first) {
        List<Item> found = new ArrayList<>();
        Char one = character(from);
        if (one != null) {
            found.add(new Item(one.end(), '\0', range(one.code(), one.code()), false));
            int sign = skipSpaces(one.end());
            Char two = at(sign) == '-' ? character(skipSpaces(sign + 1)) : null;
            if (two != null && two.code() >= one.code()) {
                found.add(new Item(two.end(), '\0', range(one.code(), two.code()), false));
            }
        }
        stringItem(from, found);
        for (Reading reading : setExpressions(from, depth)) {
            found.add(new Item(reading.end(), '\0', reading.value(), true));
        }
        if (at(from) == '-' && (first || at(skipSpaces(from + 1)) == ']')) {
            found.add(new Item(from + 1, '\0', range('-', '-'), false));
        }
        if ((at(from) == '-' || at(from) == '&') && before != null && before.endsWithSet()) {
            for (Reading reading : setExpressions(skipSpaces(from + 1), depth)) {
                found.add(new Item(reading.end(), (char) at(from), reading.value(), true));
            }
        }
        return found;
    }

    private void stringItem(int from, List<Item> found) {
        if (at(from) != '{') {
            return;
        }
        List<Integer> row = new ArrayList<>();
        int next = skipSpaces(from + 1);
        for (Char c = character(next); c != null; c = character(next)) {
            row.add(c.code());
            next = skipSpaces(c.end());
        }
        if (at(next) != '}' || row.isEmpty() || row.size() > 3) {
            return;
        }
        Members value = row.size() == 1 ? range(row.get(0), row.get(0)) : new Members();
        if (row.size() > 1) {
            value.strings.add(row);
        }
        found.add(new Item(next + 1, '\0', value, false));
    }

    private int skipSpaces(int from) {
        int next = from;
        while (at(next) == ' ') {
            next++;
        }
        return next;
    }

    private static Members range(int first, int last) {
        Members value = new Members();
        value.codes.set(first, last + 1);
        return value;
    }

    private Char character(int from) {
        int c = at(from);
        if (c == -1 || "[]{}-&^ ".indexOf(c) >= 0) {
            return null;
        }
        if (c != '\\') {
            return new Char(from + 1, c);
        }
        int d = at(from + 1);
        if (d == 'n' || d == 't') {
            return new Char(from + 2, d == 'n' ? 10 : 9);
        }
        if (d == 'u') {
            int value = hex(from + 2, from + 6);
            return value < 0 ? null : new Char(from + 6, value);
        }
        if (d == 'x' && at(from + 2) == '{') {
            int close = text.subList(from, text.size()).indexOf((int) '}') + from;
            int digits = close - from - 3;
            int value = digits < 1 || digits > 6 ? -1 : hex(from + 3, close);
            return value < 0 || value >= LIMIT ? null : new Char(close + 1, value);
        }
        boolean letter = d >= 'a' && d <= 'z' || d >= 'A' && d <= 'Z';
        return d == -1 || letter ? null : new Char(from + 2, d);
    }

    private int hex(int from, int to) {
        int value = 0;
        for (int k = from; k < to; k++) {
            int digit = "0123456789abcdef".indexOf(at(k) < 128 ? Character.toLowerCase(at(k)) : '?');
            if (at(k) == -1 || digit < 0) {
                return -1;
            }
            value = value * 16 + digit;
        }
        return value;
    }

    private List<Reading> properties(int from) {
        StringBuilder row = new StringBuilder();
        for (int k = from; k < text.size(); k++) {
            row.append(text.get(k) < 128 ? (char) (int) text.get(k) : '?');
        }
        List<Reading> found = new ArrayList<>();
        propertyBetween(from, row.toString(), "\\p{", "}", false, found);
        propertyBetween(from, row.toString(), "\\P{", "}", true, found);
        propertyBetween(from, row.toString(), "[:^", ":]", true, found);
        propertyBetween(from, row.toString(), "[:", ":]", false, found);
        return found;
    }

    private void propertyBetween(int from, String rest, String open, String close, boolean others,
            List<Reading> found) {
        int end = rest.indexOf(close, open.length());
        if (!rest.startsWith(open) || end < 0) {
            return;
        }
        String name = rest.substring(open.length(), end);
        int[] bounds = NAMES.get(name.replaceAll("[ _-]", "").toLowerCase(Locale.ROOT));
        if (bounds == null || !name.matches("[a-zA-Z _-]*")) {
            return;
        }
        Members value = new Members();
        for (int k = 0; k < bounds.length; k += 2) {
            value.codes.set(bounds[k], bounds[k + 1] + 1);
        }
        found.add(new Reading(from + end + close.length(), others ? value.others() : value));
    }

    int print(int r) {
        if (noRegister(r)) {
            return -1;
        }
        Members set = registers[r];
        StringBuilder row = new StringBuilder("[");
        for (int c = set.codes.nextSetBit(0); c >= 0; c = set.codes.nextSetBit(c + 1)) {
            int last = set.codes.nextClearBit(c) - 1;
            row.append(form(c)).append(last > c + 1 ? "-" : "").append(last > c ? form(last) : "");
            c = last;
        }
        for (List<Integer> string : set.strings) {
            row.append('{');
            string.forEach(c -> row.append(form(c)));
            row.append('}');
        }
        row.append(']');
        if (row.length() > 60) {
            return -1;
        }
        text.clear();
        row.chars().forEach(text::add);
        return row.length();
    }

    private static String form(int c) {
        if (c > 32 && c < 127) {
            return ("[]{}-&^\\:".indexOf(c) >= 0 ? "\\" : "") + (char) c;
        }
        return "\\x{" + Integer.toHexString(c) + "}";
    }

    private boolean keep(int r, Members value) {
        if (value.ranges() > 100 || value.strings.size() > 8) {
            return false;
        }
        registers[r] = value;
        return true;
    }

    boolean combine(int r, int s, int how) {
        if (noRegister(r) || noRegister(s) || how < 0 || how > 3) {
            return false;
        }
        Members value = registers[r].copy();
        if (how < 3) {
            work(value, how == 0 ? '\0' : how == 1 ? '&' : '-', registers[s]);
            return keep(r, value);
        }
        Members back = registers[s].copy();
        work(value, '-', registers[s]);
        work(back, '-', registers[r]);
        work(value, '\0', back);
        return keep(r, value);
    }

    boolean turn(int r) {
        return !noRegister(r) && registers[r].strings.isEmpty() && keep(r, registers[r].others());
    }

    int close(int r) {
        if (noRegister(r)) {
            return -1;
        }
        Members value = registers[r].copy();
        List<List<Integer>> families = new ArrayList<>(List.of(
            List.of(75, 107, 8490), List.of(83, 115, 383), List.of(197, 229, 8491), List.of(931, 962, 963)));
        for (int c = 65; c <= 222; c++) {
            if (c <= 90 || c >= 192 && c != 215) {
                families.add(List.of(c, c + 32));
            }
        }
        for (List<Integer> family : families) {
            if (family.stream().anyMatch(registers[r].codes::get)) {
                family.forEach(value.codes::set);
            }
        }
        int came = value.codes.cardinality() - registers[r].codes.cardinality();
        return keep(r, value) ? came : -1;
    }

    boolean contains(int r, int c) {
        return !noRegister(r) && c >= 0 && c < LIMIT && registers[r].codes.get(c);
    }

    private boolean member(int r, int from, int to) {
        if (to > text.size()) {
            return false;
        }
        List<Integer> row = text.subList(from, to);
        return row.size() == 1 ? registers[r].codes.get(row.get(0)) : registers[r].strings.contains(row);
    }

    boolean has(int r) {
        return !noRegister(r) && !text.isEmpty() && member(r, 0, text.size());
    }

    boolean includes(int r, int s) {
        if (noRegister(r) || noRegister(s)) {
            return false;
        }
        Members rest = registers[s].copy();
        work(rest, '-', registers[r]);
        return rest.codes.isEmpty() && rest.strings.isEmpty();
    }

    int size(int r) {
        return noRegister(r) ? -1 : registers[r].codes.cardinality();
    }

    int strings(int r) {
        return noRegister(r) ? -1 : registers[r].strings.size();
    }

    int edge(int r, int k) {
        if (noRegister(r) || k < 0) {
            return -1;
        }
        BitSet codes = registers[r].codes;
        int edge = codes.nextSetBit(0);
        for (int i = 0; i < k && edge >= 0; i++) {
            edge = i % 2 == 0 ? codes.nextClearBit(edge) : codes.nextSetBit(edge);
        }
        return edge;
    }

    int nth(int r, int i) {
        return noRegister(r) || i < 0 ? -1 : registers[r].codes.stream().skip(i).findFirst().orElse(-1);
    }

    int span(int r, int from, boolean in) {
        if (noRegister(r) || from < 0 || from > text.size()) {
            return -1;
        }
        return in ? furthest(r, from, new BitSet()) : nearest(r, from);
    }

    private int furthest(int r, int from, BitSet seen) {
        int best = from;
        seen.set(from);
        for (int width = 1; width <= 3; width++) {
            if (member(r, from, from + width) && !seen.get(from + width)) {
                best = Math.max(best, furthest(r, from + width, seen));
            }
        }
        return best;
    }

    private int nearest(int r, int from) {
        for (int end = from; end < text.size(); end++) {
            if (member(r, end, end + 1) || member(r, end, end + 2) || member(r, end, end + 3)) {
                return end;
            }
        }
        return text.size();
    }
}
