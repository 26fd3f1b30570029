/** Sets of code points and of short strings in three registers, and one text; DOC.md says what each call does. */
public final class CodePointSets {

    public static final int NONE = -1;

    private static final int CODE_POINT_LIMIT = 1114112;
    private static final int TEXT_LIMIT = 60;
    private static final int REGISTER_COUNT = 3;
    private static final int RANGE_LIMIT = 100;
    private static final int STRING_LIMIT = 8;
    private static final int LONGEST_STRING = 3;
    private static final int DEPTH_LIMIT = 5;

    private static final int UNION = 0;
    private static final int INTERSECTION = 1;
    private static final int DIFFERENCE = 2;
    private static final int EXCLUSIVE = 3;

    private final CodeRow text;
    private final MemberSet[] registers;
    private final PatternReader reader;
    private final PatternWriter writer;
    private final MemberSet alikes;
    private MemberSet spare;

    public CodePointSets() {
        text = new CodeRow();
        registers = new MemberSet[REGISTER_COUNT];
        for (int r = 0; r < REGISTER_COUNT; r++) {
            registers[r] = new MemberSet();
        }
        reader = new PatternReader();
        writer = new PatternWriter();
        alikes = new MemberSet();
        spare = new MemberSet();
    }

    public boolean type(int c) {
        return isCodePoint(c) && text.append(c);
    }

    public void wipe() {
        text.clear();
    }

    public int length() {
        return text.count;
    }

    public int at(int k) {
        return text.codeAt(k);
    }

    public boolean apply(int r) {
        MemberSet register = registerAt(r);
        if (register == null || !reader.tokens.cutText(text) || !reader.readPattern()) {
            return false;
        }
        register.become(reader.value);
        return true;
    }

    public int print(int r) {
        MemberSet register = registerAt(r);
        if (register == null || !writer.writePattern(register)) {
            return NONE;
        }
        text.become(writer.row);
        return text.count;
    }

    public boolean combine(int r, int s, int how) {
        MemberSet left = registerAt(r);
        MemberSet right = registerAt(s);
        if (left == null || right == null || how < UNION || how > EXCLUSIVE) {
            return false;
        }
        spare.becomeMerge(left, right, how);
        return keepSpare(r);
    }

    public boolean turn(int r) {
        MemberSet register = registerAt(r);
        if (register == null || register.stringCount > 0) {
            return false;
        }
        spare.becomeOthers(register);
        return keepSpare(r);
    }

    public int close(int r) {
        MemberSet register = registerAt(r);
        if (register == null) {
            return NONE;
        }
        CaseRules.collectAlikes(register, alikes);
        spare.becomeMerge(register, alikes, UNION);
        int came = spare.codeCount() - register.codeCount();
        return keepSpare(r) ? came : NONE;
    }

    public boolean contains(int r, int c) {
        MemberSet register = registerAt(r);
        return register != null && isCodePoint(c) && register.holdsCode(c);
    }

    public boolean has(int r) {
        MemberSet register = registerAt(r);
        return register != null && textIsMember(register, 0, text.count);
    }

    public boolean includes(int r, int s) {
        MemberSet whole = registerAt(r);
        MemberSet part = registerAt(s);
        if (whole == null || part == null) {
            return false;
        }
        spare.becomeMerge(part, whole, DIFFERENCE);
        return spare.edgeCount == 0 && spare.stringCount == 0;
    }

    public int size(int r) {
        MemberSet register = registerAt(r);
        return register == null ? NONE : register.codeCount();
    }

    public int strings(int r) {
        MemberSet register = registerAt(r);
        return register == null ? NONE : register.stringCount;
    }

    public int edge(int r, int k) {
        MemberSet register = registerAt(r);
        if (register == null || k < 0 || k >= register.edgeCount) {
            return NONE;
        }
        return register.edges[k];
    }

    public int nth(int r, int i) {
        MemberSet register = registerAt(r);
        return register == null || i < 0 ? NONE : register.codeOfRank(i);
    }

    public int span(int r, int from, boolean in) {
        MemberSet register = registerAt(r);
        if (register == null || from < 0 || from > text.count) {
            return NONE;
        }
        return in ? endOfMembers(register, from) : beginOfMember(register, from);
    }

    /** The first member that fits may lead to a dead end, so every end that can be reached is followed. */
    private int endOfMembers(MemberSet set, int from) {
        long reached = 1L << from;
        int greatest = from;
        for (int start = from; start <= text.count; start++) {
            if ((reached >> start & 1L) == 0L) {
                continue;
            }
            greatest = start;
            for (int width = 1; width <= LONGEST_STRING; width++) {
                if (textIsMember(set, start, width)) {
                    reached |= 1L << (start + width);
                }
            }
        }
        return greatest;
    }

    private int beginOfMember(MemberSet set, int from) {
        for (int start = from; start < text.count; start++) {
            for (int width = 1; width <= LONGEST_STRING; width++) {
                if (textIsMember(set, start, width)) {
                    return start;
                }
            }
        }
        return text.count;
    }

    private boolean textIsMember(MemberSet set, int start, int width) {
        if (width < 1 || width > LONGEST_STRING || start + width > text.count) {
            return false;
        }
        int first = text.codeAt(start);
        if (width == 1) {
            return set.holdsCode(first);
        }
        int third = width == LONGEST_STRING ? text.codeAt(start + 2) : NONE;
        return set.holdsString(MemberSet.keyOf(first, text.codeAt(start + 1), third));
    }

    private MemberSet registerAt(int r) {
        return r >= 0 && r < REGISTER_COUNT ? registers[r] : null;
    }

    /** The two sets change places, so that nothing is copied and a refused call leaves the register alone. */
    private boolean keepSpare(int r) {
        if (spare.edgeCount > 2 * RANGE_LIMIT || spare.stringCount > STRING_LIMIT) {
            return false;
        }
        MemberSet old = registers[r];
        registers[r] = spare;
        spare = old;
        return true;
    }

    private static boolean isCodePoint(int c) {
        return c >= 0 && c < CODE_POINT_LIMIT;
    }

    /** A row of code points that is never longer than the TEXT may be. */
    private static final class CodeRow {

        private final int[] codes = new int[TEXT_LIMIT];
        private int count;

        boolean append(int c) {
            if (count >= TEXT_LIMIT) {
                return false;
            }
            codes[count] = c;
            count++;
            return true;
        }

        void clear() {
            count = 0;
        }

        int codeAt(int k) {
            return k >= 0 && k < count ? codes[k] : NONE;
        }

        void become(CodeRow other) {
            System.arraycopy(other.codes, 0, codes, 0, other.count);
            count = other.count;
        }
    }

    /** A set: its edges and the keys of its strings, both in rising order. */
    private static final class MemberSet {

        // Room for the merge of two full registers, before it is looked at whether the outcome may stay.
        private static final int EDGE_ROOM = 4 * RANGE_LIMIT;
        private static final int STRING_ROOM = 2 * STRING_LIMIT;

        private static final int KEY_BITS = 21;
        private static final int KEY_MASK = (1 << KEY_BITS) - 1;
        private static final long BEHIND_ALL_KEYS = 0x7fffffffffffffffL;

        private final int[] edges = new int[EDGE_ROOM];
        private int edgeCount;
        private final long[] keys = new long[STRING_ROOM];
        private int stringCount;

        /** One is added to each code point and a third one that is NONE is 0: so keys rise as the strings do. */
        static long keyOf(int first, int second, int third) {
            return (first + 1L) << 2 * KEY_BITS | (second + 1L) << KEY_BITS | (third + 1L);
        }

        /** Code point k of the string with that key, NONE behind its end. */
        static int codeOfKey(long key, int k) {
            int shift = (LONGEST_STRING - 1 - k) * KEY_BITS;
            return (int) (key >> shift & KEY_MASK) - 1;
        }

        void clear() {
            edgeCount = 0;
            stringCount = 0;
        }

        void become(MemberSet other) {
            System.arraycopy(other.edges, 0, edges, 0, other.edgeCount);
            System.arraycopy(other.keys, 0, keys, 0, other.stringCount);
            edgeCount = other.edgeCount;
            stringCount = other.stringCount;
        }

        void becomeEdges(int[] row) {
            clear();
            for (int k = 0; k < row.length; k++) {
                toggleEdge(row[k]);
            }
        }

        void becomeString(long key) {
            clear();
            appendKey(key);
        }

        /** The range must stand behind all members, or touch the last one. */
        void appendRange(int first, int last) {
            toggleEdge(first);
            toggleEdge(last + 1);
        }

        /** All code points that are not in the other set, whose strings are not looked at. */
        void becomeOthers(MemberSet other) {
            clear();
            toggleEdge(0);
            for (int k = 0; k < other.edgeCount; k++) {
                toggleEdge(other.edges[k]);
            }
            toggleEdge(CODE_POINT_LIMIT);
        }

        /** Neither of the two may be this set. */
        void becomeMerge(MemberSet left, MemberSet right, int how) {
            clear();
            mergeEdges(left, right, how);
            mergeKeys(left, right, how);
        }

        private void mergeEdges(MemberSet left, MemberSet right, int how) {
            int i = 0;
            int j = 0;
            boolean inside = false;
            int most = left.edgeCount + right.edgeCount;
            for (int step = 0; step < most && (i < left.edgeCount || j < right.edgeCount); step++) {
                int a = i < left.edgeCount ? left.edges[i] : CODE_POINT_LIMIT;
                int b = j < right.edgeCount ? right.edges[j] : CODE_POINT_LIMIT;
                int edge = a < b ? a : b;
                if (a == edge && i < left.edgeCount) {
                    i++;
                }
                if (b == edge && j < right.edgeCount) {
                    j++;
                }
                // Behind an odd number of its edges one stands within a set.
                boolean kept = isKept((i & 1) == 1, (j & 1) == 1, how);
                if (kept != inside) {
                    toggleEdge(edge);
                    inside = kept;
                }
            }
        }

        private void mergeKeys(MemberSet left, MemberSet right, int how) {
            int i = 0;
            int j = 0;
            int most = left.stringCount + right.stringCount;
            for (int step = 0; step < most && (i < left.stringCount || j < right.stringCount); step++) {
                long a = i < left.stringCount ? left.keys[i] : BEHIND_ALL_KEYS;
                long b = j < right.stringCount ? right.keys[j] : BEHIND_ALL_KEYS;
                long key = a < b ? a : b;
                if (isKept(a == key, b == key, how)) {
                    appendKey(key);
                }
                if (a == key) {
                    i++;
                }
                if (b == key) {
                    j++;
                }
            }
        }

        private static boolean isKept(boolean inLeft, boolean inRight, int how) {
            switch (how) {
                case UNION:
                    return inLeft || inRight;
                case INTERSECTION:
                    return inLeft && inRight;
                case DIFFERENCE:
                    return inLeft && !inRight;
                default:
                    return inLeft != inRight;
            }
        }

        /** A range that ends where the next one begins goes on: an edge that is met twice is none. */
        private void toggleEdge(int edge) {
            if (edgeCount > 0 && edges[edgeCount - 1] == edge) {
                edgeCount--;
            } else if (edgeCount < EDGE_ROOM) {
                edges[edgeCount] = edge;
                edgeCount++;
            }
        }

        private void appendKey(long key) {
            if (stringCount < STRING_ROOM) {
                keys[stringCount] = key;
                stringCount++;
            }
        }

        boolean holdsCode(int c) {
            int low = 0;
            int high = edgeCount;
            for (int step = 0; step < EDGE_ROOM && low < high; step++) {
                int middle = (low + high) / 2;
                if (edges[middle] <= c) {
                    low = middle + 1;
                } else {
                    high = middle;
                }
            }
            return (low & 1) == 1;
        }

        boolean holdsString(long key) {
            for (int k = 0; k < stringCount; k++) {
                if (keys[k] == key) {
                    return true;
                }
            }
            return false;
        }

        int codeCount() {
            int total = 0;
            for (int k = 0; k + 1 < edgeCount; k += 2) {
                total += edges[k + 1] - edges[k];
            }
            return total;
        }

        int codeOfRank(int rank) {
            int left = rank;
            for (int k = 0; k + 1 < edgeCount; k += 2) {
                int width = edges[k + 1] - edges[k];
                if (left < width) {
                    return edges[k] + left;
                }
                left -= width;
            }
            return NONE;
        }
    }

    /** Which code points are alike. */
    private static final class CaseRules {

        private static final int STEP = 32;

        // The edges of the larger ones of the pairs that stand one step from each other.
        private static final int[] LARGE = {65, 91, 192, 215, 216, 223};

        private static final int[] TRIPLES = {75, 107, 8490, 83, 115, 383, 197, 229, 8491, 931, 962, 963};

        // The edges of all code points that are alike to another one.
        private static final int[] CASED = {
            65, 91, 97, 123, 192, 215, 216, 223, 224, 247, 248, 255, 383, 384, 931, 932, 962, 964, 8490, 8492};

        static void collectAlikes(MemberSet set, MemberSet alikes) {
            alikes.clear();
            for (int k = 0; k + 1 < CASED.length; k += 2) {
                for (int c = CASED[k]; c < CASED[k + 1]; c++) {
                    if (isAlikeToMember(set, c)) {
                        alikes.appendRange(c, c);
                    }
                }
            }
        }

        private static boolean isAlikeToMember(MemberSet set, int c) {
            if (isLarge(c) && set.holdsCode(c + STEP) || isLarge(c - STEP) && set.holdsCode(c - STEP)) {
                return true;
            }
            for (int k = 0; k + 2 < TRIPLES.length; k += 3) {
                int a = TRIPLES[k];
                int b = TRIPLES[k + 1];
                int d = TRIPLES[k + 2];
                if (c == a || c == b || c == d) {
                    return set.holdsCode(a) || set.holdsCode(b) || set.holdsCode(d);
                }
            }
            return false;
        }

        private static boolean isLarge(int c) {
            for (int k = 0; k + 1 < LARGE.length; k += 2) {
                if (c >= LARGE[k] && c < LARGE[k + 1]) {
                    return true;
                }
            }
            return false;
        }
    }

    /** The sets that have names, as rows of edges. */
    private static final class NamedSets {

        private static final int NAME_COUNT = 10;

        private static final int[] ANY = {0, 1114112};
        private static final int[] ASCII = {0, 128};
        private static final int[] DIGIT = {48, 58};
        private static final int[] HEX_DIGIT = {48, 58, 65, 71, 97, 103};
        private static final int[] UPPER = {65, 91, 192, 215, 216, 223};
        private static final int[] LOWER = {97, 123, 223, 247, 248, 256};
        private static final int[] LETTER = {
            65, 91, 97, 123, 170, 171, 181, 182, 186, 187, 192, 215, 216, 247, 248, 256, 880, 1024};
        private static final int[] GREEK = {880, 1024};
        private static final int[] SPACE = {9, 14, 32, 33, 133, 134, 160, 161};
        private static final int[] SURROGATE = {55296, 57344};

        static int numberOf(CodeRow letters) {
            for (int number = 0; number < NAME_COUNT; number++) {
                if (isSame(letters, nameOf(number))) {
                    return number;
                }
            }
            return NONE;
        }

        private static boolean isSame(CodeRow letters, String name) {
            if (letters.count != name.length()) {
                return false;
            }
            for (int k = 0; k < letters.count; k++) {
                if (letters.codes[k] != name.charAt(k)) {
                    return false;
                }
            }
            return true;
        }

        private static String nameOf(int number) {
            switch (number) {
                case 0:
                    return "any";
                case 1:
                    return "ascii";
                case 2:
                    return "digit";
                case 3:
                    return "hexdigit";
                case 4:
                    return "upper";
                case 5:
                    return "lower";
                case 6:
                    return "letter";
                case 7:
                    return "greek";
                case 8:
                    return "space";
                default:
                    return "surrogate";
            }
        }

        static int[] edgesOf(int number) {
            switch (number) {
                case 0:
                    return ANY;
                case 1:
                    return ASCII;
                case 2:
                    return DIGIT;
                case 3:
                    return HEX_DIGIT;
                case 4:
                    return UPPER;
                case 5:
                    return LOWER;
                case 6:
                    return LETTER;
                case 7:
                    return GREEK;
                case 8:
                    return SPACE;
                default:
                    return SURROGATE;
            }
        }
    }

    /** The TEXT cut into the smallest parts that say something; spaces that say nothing are left out. */
    private static final class TokenRow {

        private static final int NOTHING = 0;
        private static final int CHAR = 1;
        private static final int PROPERTY = 2;
        private static final int OTHERS_PROPERTY = 3;
        private static final int OPENING = 4;
        private static final int OTHERS_OPENING = 5;
        private static final int CLOSING = 6;
        private static final int STRING_OPENING = 7;
        private static final int STRING_CLOSING = 8;
        private static final int HYPHEN = 9;
        private static final int AMPERSAND = 10;

        // What a small letter has and its large one has not.
        private static final int SMALL_BIT = 32;

        private final CodeRow text = new CodeRow();
        private final int[] kinds = new int[TEXT_LIMIT];
        private final int[] values = new int[TEXT_LIMIT];
        private final CodeRow letters = new CodeRow();
        private int count;
        private int position;

        int kindAt(int k) {
            return k >= 0 && k < count ? kinds[k] : NOTHING;
        }

        int valueAt(int k) {
            return k >= 0 && k < count ? values[k] : NONE;
        }

        boolean beginsSet(int k) {
            int kind = kindAt(k);
            return kind == OPENING || kind == OTHERS_OPENING || kind == PROPERTY || kind == OTHERS_PROPERTY;
        }

        /** False if some part of the TEXT can be in no pattern. */
        boolean cutText(CodeRow source) {
            text.become(source);
            count = 0;
            position = 0;
            // Between any two tokens of a pattern spaces may stand; only round the whole they may not.
            if (text.codeAt(0) == ' ' || text.codeAt(text.count - 1) == ' ') {
                return false;
            }
            for (int step = 0; step < TEXT_LIMIT && position < text.count; step++) {
                if (!takeToken()) {
                    return false;
                }
            }
            return true;
        }

        private boolean takeToken() {
            int c = text.codeAt(position);
            switch (c) {
                case ' ':
                    position++;
                    return true;
                case '[':
                    return takeOpening();
                case ']':
                    return add(CLOSING, c, 1);
                case '{':
                    return add(STRING_OPENING, c, 1);
                case '}':
                    return add(STRING_CLOSING, c, 1);
                case '-':
                    return add(HYPHEN, c, 1);
                case '&':
                    return add(AMPERSAND, c, 1);
                case '^':
                    return false;
                case '\\':
                    return (text.codeAt(position + 1) | SMALL_BIT) == 'p' ? takeBracedName() : takeEscape();
                default:
                    return add(CHAR, c, 1);
            }
        }

        private boolean takeOpening() {
            int c = text.codeAt(position + 1);
            if (c == '^') {
                return add(OTHERS_OPENING, c, 2);
            }
            if (c != ':') {
                return add(OPENING, c, 1);
            }
            boolean others = text.codeAt(position + 2) == '^';
            int end = collectName(position + (others ? 3 : 2));
            if (text.codeAt(end) != ':' || text.codeAt(end + 1) != ']') {
                return false;
            }
            return addProperty(others, end + 2 - position);
        }

        private boolean takeEscape() {
            int c = text.codeAt(position + 1);
            switch (c) {
                case NONE:
                    return false;
                case 'n':
                    return add(CHAR, 10, 2);
                case 't':
                    return add(CHAR, 9, 2);
                case 'u':
                    return takeFourDigits();
                case 'x':
                    return takeBracedDigits();
                default:
                    return !isLetter(c) && add(CHAR, c, 2);
            }
        }

        private boolean takeFourDigits() {
            int from = position + 2;
            return countHexDigits(from, 4) == 4 && add(CHAR, hexValue(from, 4), 6);
        }

        private boolean takeBracedDigits() {
            int from = position + 3;
            int digits = countHexDigits(from, 6);
            if (text.codeAt(from - 1) != '{' || digits == 0 || text.codeAt(from + digits) != '}') {
                return false;
            }
            int value = hexValue(from, digits);
            return isCodePoint(value) && add(CHAR, value, digits + 4);
        }

        private boolean takeBracedName() {
            int end = collectName(position + 3);
            if (text.codeAt(position + 2) != '{' || text.codeAt(end) != '}') {
                return false;
            }
            return addProperty(text.codeAt(position + 1) == 'P', end + 1 - position);
        }

        /** Gathers the letters of a name, made small; answers where the first code point is that no name has. */
        private int collectName(int from) {
            letters.clear();
            for (int k = from; k < text.count; k++) {
                int c = text.codeAt(k);
                if (isLetter(c)) {
                    letters.append(c | SMALL_BIT);
                } else if (c != ' ' && c != '_' && c != '-') {
                    return k;
                }
            }
            return text.count;
        }

        private boolean addProperty(boolean others, int width) {
            int number = NamedSets.numberOf(letters);
            return number != NONE && add(others ? OTHERS_PROPERTY : PROPERTY, number, width);
        }

        private boolean add(int kind, int value, int width) {
            if (count >= TEXT_LIMIT) {
                return false;
            }
            kinds[count] = kind;
            values[count] = value;
            count++;
            position += width;
            return true;
        }

        private int countHexDigits(int from, int most) {
            for (int k = 0; k < most; k++) {
                if (hexDigit(text.codeAt(from + k)) == NONE) {
                    return k;
                }
            }
            return most;
        }

        private int hexValue(int from, int digits) {
            int value = 0;
            for (int k = 0; k < digits; k++) {
                value = value * 16 + hexDigit(text.codeAt(from + k));
            }
            return value;
        }

        private static int hexDigit(int c) {
            if (c >= '0' && c <= '9') {
                return c - '0';
            }
            if (c >= 'a' && c <= 'f') {
                return c - 'a' + 10;
            }
            return c >= 'A' && c <= 'F' ? c - 'A' + 10 : NONE;
        }

        private static boolean isLetter(int c) {
            return c >= 'a' && c <= 'z' || c >= 'A' && c <= 'Z';
        }
    }

    /** A bracket whose end has not been read. */
    private static final class OpenBracket {

        private MemberSet value = new MemberSet();
        private boolean others;
        private int itemCount;
        private boolean behindSet;
        private int how;

        void begin(boolean isOthers) {
            value.clear();
            others = isOthers;
            itemCount = 0;
            behindSet = false;
            how = UNION;
        }
    }

    /** Works out the value of a row of tokens as a pattern. */
    private static final class PatternReader {

        private final TokenRow tokens = new TokenRow();
        private final OpenBracket[] brackets = new OpenBracket[DEPTH_LIMIT];
        private int depth;
        private int next;
        private MemberSet operand = new MemberSet();
        private MemberSet spare = new MemberSet();
        private MemberSet value = operand;

        PatternReader() {
            for (int k = 0; k < DEPTH_LIMIT; k++) {
                brackets[k] = new OpenBracket();
            }
        }

        /** False if the tokens are no pattern; otherwise value is what they say. */
        boolean readPattern() {
            depth = 0;
            next = 0;
            for (int step = 0; step < TEXT_LIMIT && next < tokens.count; step++) {
                if (!readPart()) {
                    return false;
                }
                if (depth == 0) {
                    return next == tokens.count;
                }
            }
            return false;
        }

        private boolean readPart() {
            int kind = tokens.kindAt(next);
            if (depth == 0 && !tokens.beginsSet(next)) {
                return false;
            }
            switch (kind) {
                case TokenRow.OPENING:
                case TokenRow.OTHERS_OPENING:
                    return openBracket(kind == TokenRow.OTHERS_OPENING);
                case TokenRow.CLOSING:
                    return endBracket();
                case TokenRow.PROPERTY:
                case TokenRow.OTHERS_PROPERTY:
                    return readProperty(kind == TokenRow.OTHERS_PROPERTY);
                case TokenRow.STRING_OPENING:
                    return readString();
                case TokenRow.CHAR:
                    return readChar();
                case TokenRow.HYPHEN:
                    return readHyphen();
                case TokenRow.AMPERSAND:
                    return readSign(INTERSECTION);
                default:
                    return false;
            }
        }

        private boolean openBracket(boolean others) {
            if (depth >= DEPTH_LIMIT) {
                return false;
            }
            brackets[depth].begin(others);
            depth++;
            next++;
            return true;
        }

        private boolean endBracket() {
            OpenBracket bracket = innermost();
            if (bracket.others) {
                if (bracket.value.stringCount > 0) {
                    return false;
                }
                spare.becomeOthers(bracket.value);
                MemberSet old = bracket.value;
                bracket.value = spare;
                spare = old;
            }
            depth--;
            next++;
            return join(bracket.value, true);
        }

        private boolean readProperty(boolean others) {
            operand.becomeEdges(NamedSets.edgesOf(tokens.valueAt(next)));
            if (others) {
                spare.becomeOthers(operand);
                MemberSet old = operand;
                operand = spare;
                spare = old;
            }
            next++;
            return join(operand, true);
        }

        private boolean readString() {
            int width = 0;
            for (int k = 1; k <= LONGEST_STRING && tokens.kindAt(next + k) == TokenRow.CHAR; k++) {
                width = k;
            }
            if (width == 0 || tokens.kindAt(next + width + 1) != TokenRow.STRING_CLOSING) {
                return false;
            }
            int first = tokens.valueAt(next + 1);
            if (width == 1) {
                takeRange(first, first, 3);
                return join(operand, false);
            }
            int third = width == LONGEST_STRING ? tokens.valueAt(next + 3) : NONE;
            operand.becomeString(MemberSet.keyOf(first, tokens.valueAt(next + 2), third));
            next += width + 2;
            return join(operand, false);
        }

        private boolean readChar() {
            int first = tokens.valueAt(next);
            // A hyphen that is the last item of its bracket is for itself.
            if (tokens.kindAt(next + 1) != TokenRow.HYPHEN || tokens.kindAt(next + 2) == TokenRow.CLOSING) {
                takeRange(first, first, 1);
                return join(operand, false);
            }
            int last = tokens.valueAt(next + 2);
            if (tokens.kindAt(next + 2) != TokenRow.CHAR || last < first) {
                return false;
            }
            takeRange(first, last, 3);
            return join(operand, false);
        }

        private boolean readHyphen() {
            if (innermost().itemCount == 0 || tokens.kindAt(next + 1) == TokenRow.CLOSING) {
                takeRange('-', '-', 1);
                return join(operand, false);
            }
            return readSign(DIFFERENCE);
        }

        /** The set expression behind the sign is read as any other, and joined as the sign says. */
        private boolean readSign(int how) {
            OpenBracket bracket = innermost();
            if (!bracket.behindSet || !tokens.beginsSet(next + 1)) {
                return false;
            }
            bracket.how = how;
            next++;
            return true;
        }

        private void takeRange(int first, int last, int width) {
            operand.clear();
            operand.appendRange(first, last);
            next += width;
        }

        private boolean join(MemberSet item, boolean isSet) {
            if (depth == 0) {
                value = item;
                return true;
            }
            OpenBracket bracket = innermost();
            spare.becomeMerge(bracket.value, item, bracket.how);
            MemberSet old = bracket.value;
            bracket.value = spare;
            spare = old;
            bracket.how = UNION;
            bracket.behindSet = isSet;
            bracket.itemCount++;
            return bracket.value.stringCount <= STRING_LIMIT;
        }

        private OpenBracket innermost() {
            return brackets[depth > 0 ? depth - 1 : 0];
        }
    }

    /** Writes the pattern of a set. */
    private static final class PatternWriter {

        private static final int HIGHEST_SHIFT = 20;

        private final CodeRow row = new CodeRow();
        private boolean fits;

        /** False if the pattern is too long for the TEXT; otherwise row is the pattern. */
        boolean writePattern(MemberSet set) {
            row.clear();
            fits = true;
            put('[');
            for (int k = 0; k + 1 < set.edgeCount && fits; k += 2) {
                writeRange(set.edges[k], set.edges[k + 1] - 1);
            }
            for (int k = 0; k < set.stringCount && fits; k++) {
                writeString(set.keys[k]);
            }
            put(']');
            return fits;
        }

        private void writeRange(int first, int last) {
            writeCode(first);
            if (last == first) {
                return;
            }
            if (last > first + 1) {
                put('-');
            }
            writeCode(last);
        }

        private void writeString(long key) {
            put('{');
            for (int k = 0; k < LONGEST_STRING; k++) {
                int c = MemberSet.codeOfKey(key, k);
                if (c != NONE) {
                    writeCode(c);
                }
            }
            put('}');
        }

        private void writeCode(int c) {
            if (c < 33 || c > 126) {
                writeHex(c);
                return;
            }
            if (isSign(c)) {
                put('\\');
            }
            put(c);
        }

        private void writeHex(int c) {
            put('\\');
            put('x');
            put('{');
            for (int shift = HIGHEST_SHIFT; shift >= 0; shift -= 4) {
                if (c >> shift != 0 || shift == 0) {
                    int digit = c >> shift & 15;
                    put(digit < 10 ? '0' + digit : 'a' + digit - 10);
                }
            }
            put('}');
        }

        private void put(int c) {
            if (!row.append(c)) {
                fits = false;
            }
        }

        private static boolean isSign(int c) {
            switch (c) {
                case '[':
                case ']':
                case '{':
                case '}':
                case '-':
                case '&':
                case '^':
                case '\\':
                case ':':
                    return true;
                default:
                    return false;
            }
        }
    }
}
