/** Schematics as trees of objects, read from a text in one of two forms, and written. */
public final class SchematicText {
    public static final int NONE = -1;

    private static final int MOST_OBJECTS = 200;
    private static final int MOST_NUMBERS = 5;
    private static final int MOST_TEXTS = 2;
    private static final int TEXT_ROOM = 40;
    private static final int KEPT_ROOM = 2000;
    private static final int SOURCE_ROOM = 4000;
    private static final int MOST_OPEN = 100;
    private static final int NEWEST_VERSION = 3;
    private static final int WHOLE_DIGITS = 4;
    private static final int POINT_DIGITS = 6;
    private static final int NANOMETRES = 1_000_000;
    private static final long FURTHEST = 1_000_000_000L;
    // 200 objects come to less: 19,900 for their depths, 174 for each (a FIELD
    // whose texts are all escapes), and the characters kept for UNKNOWNs.
    private static final int PAGE_ROOM = 60_000;

    private static final int IN_DESIGN = 1;
    private static final int IN_SHEET = 2;
    private static final int IN_SYMBOL = 4;
    private static final int IN_UNIT = 8;

    private static final int SORT_TEXT = 0;
    private static final int SORT_LENGTH = 1;
    private static final int SORT_WHOLE = 2;

    private static final char FEED = 10;
    private static final char QUOTE = '"';
    private static final char ESCAPE = 92;

    private final Form form;
    private final Source source;
    private final Page page;
    // A read fills the spare tree, so that a fault leaves the other as it was.
    private Tree tree;
    private Tree spare;
    private boolean pageHolds;

    public SchematicText(int form) {
        this.form = form <= 0 ? new ListForm() : new LineForm();
        this.source = new Source();
        this.page = new Page();
        this.tree = new Tree();
        this.spare = new Tree();
        this.pageHolds = false;
    }

    public boolean unit(int u) {
        return source.append(u);
    }

    public int read() {
        spare.forget();
        source.rewind();
        if (!form.take(source, spare)) {
            return NONE - source.fault;
        }
        Tree before = tree;
        tree = spare;
        spare = before;
        pageHolds = false;
        return tree.count;
    }

    public int kind(int k) throws IndexOutOfBoundsException {
        return kindOfObject(k).number;
    }

    public int parent(int k) throws IndexOutOfBoundsException {
        if (!tree.has(k)) {
            throw new IndexOutOfBoundsException("no such object");
        }
        return tree.parentOf(k);
    }

    public long number(int k, int what) throws IndexOutOfBoundsException {
        if (kindOfObject(k).spotOf(false, what) == NONE) {
            throw new IndexOutOfBoundsException("no such number");
        }
        return tree.numberOf(k, what);
    }

    public int text(int k, int what, int i) throws IndexOutOfBoundsException {
        if (kindOfObject(k).spotOf(true, what) == NONE) {
            throw new IndexOutOfBoundsException("no such text");
        }
        int size = tree.textSize(k, what);
        if (i == NONE) {
            return size;
        }
        if (i < 0 || i >= size) {
            throw new IndexOutOfBoundsException("no such character");
        }
        return tree.textMark(k, what, i);
    }

    public int version() {
        return tree.version;
    }

    public int unknown(int k, int i) throws IndexOutOfBoundsException, IllegalStateException {
        if (kindOfObject(k) != Kind.UNKNOWN) {
            throw new IllegalStateException("the object is of another kind");
        }
        int size = tree.keptSizeOf(k);
        if (i == NONE) {
            return size;
        }
        if (i < 0 || i >= size) {
            throw new IndexOutOfBoundsException("no such character");
        }
        return tree.keptMark(k, i);
    }

    public int write(int i) throws IndexOutOfBoundsException, IllegalStateException {
        if (i < 0) {
            throw new IndexOutOfBoundsException("below the first character");
        }
        if (tree.count == 0) {
            throw new IllegalStateException("there are no objects");
        }
        if (!pageHolds) {
            page.forget();
            form.tell(tree, page);
            pageHolds = true;
        }
        return page.markAt(i);
    }

    public int object(int parent, int kind) throws IndexOutOfBoundsException, IllegalArgumentException {
        if (parent != NONE && !tree.has(parent)) {
            throw new IndexOutOfBoundsException("no such parent");
        }
        if (kind < Kind.DESIGN.number || kind > Kind.UNKNOWN.number) {
            throw new IllegalArgumentException("no such kind");
        }
        Kind wanted = Kind.numbered(kind);
        if (wanted == Kind.UNKNOWN || !tree.mayHold(parent, wanted)) {
            return NONE;
        }
        pageHolds = false;
        return tree.grow(parent, wanted);
    }

    public boolean set(int k, int what, long v) throws IndexOutOfBoundsException {
        Kind kind = kindOfObject(k);
        boolean ofText = what < 0;
        int which = ofText ? NONE - what : what;
        int spot = kind.spotOf(ofText, which);
        if (spot == NONE) {
            throw new IndexOutOfBoundsException("no such field");
        }
        boolean fits = ofText ? tree.fitsText(k, which, v) : kind.fieldAt(spot).admits(v);
        if (!fits) {
            return false;
        }
        if (ofText) {
            tree.extendText(k, which, v);
        } else {
            tree.putNumber(k, which, v);
        }
        pageHolds = false;
        return true;
    }

    public int depth() {
        return tree.deepest;
    }

    public void clear() {
        source.empty();
    }

    private Kind kindOfObject(int k) {
        if (!tree.has(k)) {
            throw new IndexOutOfBoundsException("no such object");
        }
        return tree.kindOf(k);
    }

    private static boolean isTextMark(int c) {
        return c >= 32 && c <= 126;
    }

    private static boolean isDigit(int c) {
        return c >= '0' && c <= '9';
    }

    private static boolean isSmallLetter(int c) {
        return c >= 'a' && c <= 'z';
    }

    private static boolean needsEscape(int c) {
        return c == QUOTE || c == ESCAPE;
    }

    /** What one field of an object may hold, what it holds when made, and since which version it is in the text. */
    private enum Field {
        TEXT(SORT_TEXT, 0, 0, 0, 1),
        LENGTH(SORT_LENGTH, -FURTHEST, FURTHEST, 0, 1),
        SIZE(SORT_LENGTH, -FURTHEST, FURTHEST, 1_270_000, 3),
        PAGE(SORT_WHOLE, 0, 9999, 0, 1),
        UNIT_NUMBER(SORT_WHOLE, 1, 9999, 1, 1),
        PIN_KIND(SORT_WHOLE, 0, 9, 0, 2),
        ANGLE(SORT_WHOLE, -360, 360, 0, 1),
        // The DESIGN's VERSION is a VALUE of the text, but no field of the object.
        VERSION(SORT_WHOLE, 1, NEWEST_VERSION, 0, 1);

        private final int sort;
        private final long lowest;
        private final long highest;
        private final long made;
        private final int since;

        Field(int sort, long lowest, long highest, long made, int since) {
            this.sort = sort;
            this.lowest = lowest;
            this.highest = highest;
            this.made = made;
            this.since = since;
        }

        static Field lettered(char letter) {
            switch (letter) {
                case 't': return TEXT;
                case 'n': return LENGTH;
                case 's': return SIZE;
                case 'p': return PAGE;
                case 'u': return UNIT_NUMBER;
                case 'k': return PIN_KIND;
                default: return ANGLE;
            }
        }

        boolean isText() {
            return sort == SORT_TEXT;
        }

        boolean isLength() {
            return sort == SORT_LENGTH;
        }

        boolean admits(long v) {
            return v >= lowest && v <= highest;
        }
    }

    /** A kind of objects: its NAME, the kinds that it may be in, and the letters of its fields in their order. */
    private enum Kind {
        DESIGN(0, "design", 0, ""),
        SHEET(1, "sheet", IN_DESIGN | IN_SHEET, "pt"),
        SYMBOL(2, "symbol", IN_SHEET, "nnt"),
        UNIT(3, "unit", IN_SYMBOL, "u"),
        PIN(4, "pin", IN_UNIT, "nntk"),
        ARC(5, "arc", IN_UNIT, "nnnaa"),
        NOTE(6, "note", IN_UNIT | IN_SHEET, "nnts"),
        WIRE(7, "wire", IN_SHEET, "nnnn"),
        FIELD(8, "field", IN_SHEET | IN_SYMBOL, "tt"),
        UNKNOWN(9, "", IN_DESIGN | IN_SHEET | IN_SYMBOL | IN_UNIT, "");

        private static final Kind[] ALL = values();

        private final int number;
        private final String title;
        private final int homes;
        private final String shape;

        Kind(int number, String title, int homes, String shape) {
            this.number = number;
            this.title = title;
            this.homes = homes;
            this.shape = shape;
        }

        static Kind numbered(int number) {
            return number >= 0 && number < ALL.length ? ALL[number] : UNKNOWN;
        }

        boolean mayBeIn(Kind parent) {
            return ((homes >> parent.number) & 1) == 1;
        }

        int fields() {
            return shape.length();
        }

        Field fieldAt(int spot) {
            return Field.lettered(spot >= 0 && spot < shape.length() ? shape.charAt(spot) : 't');
        }

        /** Where in the shape the what-th text (or else number) stands, NONE when there is none. */
        int spotOf(boolean ofText, int what) {
            int seen = 0;
            for (int spot = 0; spot < shape.length(); spot++) {
                if (fieldAt(spot).isText() == ofText) {
                    if (seen == what) {
                        return spot;
                    }
                    seen++;
                }
            }
            return NONE;
        }
    }

    /** The objects, in rows that are made once and filled anew by each read. */
    private static final class Tree {
        private final int[] kinds = new int[MOST_OBJECTS];
        private final int[] parents = new int[MOST_OBJECTS];
        private final int[] depths = new int[MOST_OBJECTS];
        private final int[] firsts = new int[MOST_OBJECTS];
        private final int[] lasts = new int[MOST_OBJECTS];
        private final int[] nexts = new int[MOST_OBJECTS];
        private final long[] numbers = new long[MOST_OBJECTS * MOST_NUMBERS];
        private final int[] textSizes = new int[MOST_OBJECTS * MOST_TEXTS];
        private final char[] textMarks = new char[MOST_OBJECTS * MOST_TEXTS * TEXT_ROOM];
        private final int[] keptFrom = new int[MOST_OBJECTS];
        private final int[] keptSizes = new int[MOST_OBJECTS];
        private final char[] kept = new char[KEPT_ROOM];
        private int keptCount = 0;
        private int count = 0;
        private int deepest = 0;
        private int version = 0;

        void forget() {
            keptCount = 0;
            count = 0;
            deepest = 0;
            version = 0;
        }

        boolean has(int k) {
            return k >= 0 && k < count;
        }

        Kind kindOf(int k) {
            return Kind.numbered(has(k) ? kinds[k] : NONE);
        }

        int parentOf(int k) {
            return has(k) ? parents[k] : NONE;
        }

        /** How deep an object is: the DESIGN 0, and so NONE, which stands above it, -1. */
        int depthOf(int k) {
            return has(k) ? depths[k] : -1;
        }

        boolean mayHold(int parent, Kind kind) {
            if (has(parent)) {
                return kind.mayBeIn(kindOf(parent));
            }
            return count == 0 && kind == Kind.DESIGN;
        }

        /** A new object behind what is in its parent: its number, or NONE when there is no room. */
        int grow(int parent, Kind kind) {
            int k = count;
            if (k < 0 || k >= MOST_OBJECTS) {
                return NONE;
            }
            count++;
            kinds[k] = kind.number;
            parents[k] = parent;
            depths[k] = depthOf(parent) + 1;
            deepest = Math.max(deepest, depths[k] + 1);
            firsts[k] = NONE;
            lasts[k] = NONE;
            nexts[k] = NONE;
            keptFrom[k] = 0;
            keptSizes[k] = 0;
            hang(k, parent);
            fillAsMade(k, kind);
            return k;
        }

        private void hang(int k, int parent) {
            if (!has(k) || !has(parent)) {
                return;
            }
            int last = lasts[parent];
            if (has(last)) {
                nexts[last] = k;
            } else {
                firsts[parent] = k;
            }
            lasts[parent] = k;
        }

        private void fillAsMade(int k, Kind kind) {
            int what = 0;
            for (int spot = 0; spot < kind.fields(); spot++) {
                Field field = kind.fieldAt(spot);
                if (!field.isText()) {
                    putNumber(k, what, field.made);
                    what++;
                }
            }
            for (int i = 0; i < MOST_TEXTS; i++) {
                emptyText(k, i);
            }
        }

        /** The object that is written behind this one, NONE behind the last. */
        int follower(int k) {
            if (!has(k)) {
                return NONE;
            }
            if (firsts[k] != NONE) {
                return firsts[k];
            }
            int at = k;
            for (int step = 0; step < MOST_OBJECTS && has(at); step++) {
                if (nexts[at] != NONE) {
                    return nexts[at];
                }
                at = parents[at];
            }
            return NONE;
        }

        private boolean hasNumber(int k, int what) {
            return k >= 0 && k < count && what >= 0 && what < MOST_NUMBERS;
        }

        long numberOf(int k, int what) {
            return hasNumber(k, what) ? numbers[k * MOST_NUMBERS + what] : 0;
        }

        void putNumber(int k, int what, long v) {
            if (hasNumber(k, what)) {
                numbers[k * MOST_NUMBERS + what] = v;
            }
        }

        private boolean hasText(int k, int what) {
            return k >= 0 && k < count && what >= 0 && what < MOST_TEXTS;
        }

        int textSize(int k, int what) {
            return hasText(k, what) ? textSizes[k * MOST_TEXTS + what] : 0;
        }

        int textMark(int k, int what, int i) {
            if (i < 0 || i >= TEXT_ROOM || i >= textSize(k, what)) {
                return NONE;
            }
            return textMarks[(k * MOST_TEXTS + what) * TEXT_ROOM + i];
        }

        void emptyText(int k, int what) {
            if (hasText(k, what)) {
                textSizes[k * MOST_TEXTS + what] = 0;
            }
        }

        void appendToText(int k, int what, int c) {
            if (!hasText(k, what)) {
                return;
            }
            int row = k * MOST_TEXTS + what;
            int size = textSizes[row];
            if (size >= 0 && size < TEXT_ROOM) {
                textMarks[row * TEXT_ROOM + size] = (char) c;
                textSizes[row] = size + 1;
            }
        }

        boolean fitsText(int k, int what, long v) {
            int more = 0;
            for (int shift = 56; shift >= 0; shift -= 8) {
                int c = (int) (v >>> shift) & 255;
                if (c != 0 && !isTextMark(c)) {
                    return false;
                }
                more += c == 0 ? 0 : 1;
            }
            return textSize(k, what) + more <= TEXT_ROOM;
        }

        void extendText(int k, int what, long v) {
            if (v == 0) {
                emptyText(k, what);
            }
            for (int shift = 56; shift >= 0; shift -= 8) {
                int c = (int) (v >>> shift) & 255;
                if (c != 0) {
                    appendToText(k, what, c);
                }
            }
        }

        int keptRoom() {
            return KEPT_ROOM - keptCount;
        }

        void keep(int k, Source from, int begin, int end) {
            if (!has(k)) {
                return;
            }
            keptFrom[k] = keptCount;
            for (int at = begin; at < end && keptCount < KEPT_ROOM; at++) {
                kept[keptCount] = (char) from.markAt(at);
                keptCount++;
            }
            keptSizes[k] = keptCount - keptFrom[k];
        }

        int keptSizeOf(int k) {
            return has(k) ? keptSizes[k] : 0;
        }

        int keptMark(int k, int i) {
            if (i < 0 || i >= keptSizeOf(k)) {
                return NONE;
            }
            int at = keptFrom[k] + i;
            return at >= 0 && at < KEPT_ROOM ? kept[at] : NONE;
        }
    }

    /** The text, the place that a read has come to, and the place of the fault that it met. */
    private static final class Source {
        private final char[] marks = new char[SOURCE_ROOM];
        private int count = 0;
        private int at = 0;
        private int fault = NONE;
        private long value = 0;

        boolean append(int u) {
            if (count >= SOURCE_ROOM || !(isTextMark(u) || u == FEED)) {
                return false;
            }
            marks[count] = (char) u;
            count++;
            return true;
        }

        void empty() {
            count = 0;
        }

        void rewind() {
            at = 0;
            fault = NONE;
            value = 0;
        }

        boolean failAt(int place) {
            fault = place;
            return false;
        }

        int markAt(int place) {
            return place >= 0 && place < count ? marks[place] : NONE;
        }

        int mark() {
            return at >= 0 && at < count ? marks[at] : NONE;
        }

        boolean ended() {
            return at >= count;
        }

        void pass() {
            at++;
        }

        boolean passOnly(char c) {
            if (mark() != c) {
                return failAt(at);
            }
            at++;
            return true;
        }

        void passBlanks() {
            while (at < count && (mark() == ' ' || mark() == FEED)) {
                at++;
            }
        }

        void passLetters() {
            while (at < count && isSmallLetter(mark())) {
                at++;
            }
        }

        int dotsFrom(int place) {
            int dots = 0;
            while (dots < count && markAt(place + dots) == '.') {
                dots++;
            }
            return dots;
        }

        /** The place of the line feed that ends the line, or the text's length when there is none. */
        int lineEnd(int place) {
            int end = place;
            while (end < count && markAt(end) != FEED) {
                end++;
            }
            return Math.min(end, count);
        }

        Kind kindNamed(int from, int end) {
            for (Kind kind : Kind.ALL) {
                if (reads(kind.title, from, end)) {
                    return kind;
                }
            }
            return Kind.UNKNOWN;
        }

        private boolean reads(String title, int from, int end) {
            if (title.length() != end - from) {
                return false;
            }
            for (int i = 0; i < title.length(); i++) {
                if (markAt(from + i) != title.charAt(i)) {
                    return false;
                }
            }
            return true;
        }

        /** Takes a VALUE N or W; its bounds are asked last, so that a digit too many is told at its own place. */
        boolean takeNumber(Field field) {
            int from = at;
            value = 0;
            boolean below = mark() == '-';
            if (below) {
                at++;
            }
            if (!takeDigits(WHOLE_DIGITS)) {
                return false;
            }
            if (field.isLength() && !takePointDigits()) {
                return false;
            }
            if (below) {
                value = -value;
            }
            return field.admits(value) || failAt(from);
        }

        private boolean takePointDigits() {
            int from = at + 1;
            if (mark() == '.') {
                at++;
                if (!takeDigits(POINT_DIGITS)) {
                    return false;
                }
            }
            for (int digits = Math.max(at - from, 0); digits < POINT_DIGITS; digits++) {
                value *= 10;
            }
            return true;
        }

        private boolean takeDigits(int most) {
            int from = at;
            while (at < count && at - from < most && isDigit(mark())) {
                value = value * 10 + (mark() - '0');
                at++;
            }
            return at > from && !isDigit(mark()) || failAt(at);
        }

        boolean takeText(Tree into, int k, int what) {
            if (!passOnly(QUOTE)) {
                return false;
            }
            for (int size = 0; size < TEXT_ROOM && mark() != QUOTE; size++) {
                if (!isTextMark(mark()) || mark() == ESCAPE && !passEscape(count)) {
                    return failAt(at);
                }
                into.appendToText(k, what, mark());
                at++;
            }
            return passOnly(QUOTE);
        }

        /** From an escape to the character that it stands ahead of; false, there, when that may not be. */
        private boolean passEscape(int stop) {
            at++;
            return at < stop && needsEscape(mark());
        }

        /** Passes a T that is only kept, which must end ahead of stop. */
        boolean passQuoted(int stop) {
            at++;
            while (at < stop && mark() != QUOTE) {
                if (mark() == ESCAPE && !passEscape(stop)) {
                    return failAt(at);
                }
                at++;
            }
            if (at >= stop) {
                return failAt(stop);
            }
            at++;
            return true;
        }
    }

    /** What is WRITTEN, kept until an object changes. */
    private static final class Page {
        private final char[] marks = new char[PAGE_ROOM];
        private int count = 0;

        void forget() {
            count = 0;
        }

        int markAt(int i) {
            return i >= 0 && i < count && i < PAGE_ROOM ? marks[i] : NONE;
        }

        void put(int c) {
            if (count >= 0 && count < PAGE_ROOM) {
                marks[count] = (char) c;
                count++;
            }
        }

        void putTimes(char c, int times) {
            for (int i = 0; i < times; i++) {
                put(c);
            }
        }

        void putTitle(String title) {
            for (int i = 0; i < title.length(); i++) {
                put(title.charAt(i));
            }
        }

        void putNumber(Field field, long v) {
            if (v < 0) {
                put('-');
            }
            long size = Math.abs(v);
            if (field.isLength()) {
                putWhole((int) (size / NANOMETRES));
                putPoint((int) (size % NANOMETRES));
            } else {
                putWhole((int) size);
            }
        }

        private void putWhole(int v) {
            boolean begun = false;
            for (int power = 1000; power > 0; power /= 10) {
                int digit = v / power % 10;
                if (begun || digit > 0 || power == 1) {
                    put('0' + digit);
                    begun = true;
                }
            }
        }

        private void putPoint(int nanometres) {
            int rest = nanometres;
            if (rest > 0) {
                put('.');
            }
            for (int power = NANOMETRES / 10; power > 0 && rest > 0; power /= 10) {
                put('0' + rest / power);
                rest %= power;
            }
        }

        void putText(Tree tree, int k, int what) {
            put(QUOTE);
            for (int i = 0; i < tree.textSize(k, what); i++) {
                int c = tree.textMark(k, what, i);
                if (needsEscape(c)) {
                    put(ESCAPE);
                }
                put(c);
            }
            put(QUOTE);
        }

        void putKept(Tree tree, int k) {
            for (int i = 0; i < tree.keptSizeOf(k); i++) {
                put(tree.keptMark(k, i));
            }
        }
    }

    /** What the two forms of the text share: NAMES and VALUES. */
    private abstract static class Form {
        /** Reads the whole text into an empty tree; false with the source's fault. */
        abstract boolean take(Source source, Tree into);

        abstract void tell(Tree tree, Page page);

        /** Passes what must stand ahead of a VALUE. */
        abstract boolean passGap(Source source);

        /** Takes a NAME: the number of the object that it begins, or NONE with a fault. */
        int takeName(Source source, Tree into, int parent) {
            int from = source.at;
            source.passLetters();
            Kind kind = source.kindNamed(from, source.at);
            int k = NONE;
            if (source.at > from && into.mayHold(parent, kind)) {
                k = into.grow(parent, kind);
            }
            if (k == NONE) {
                source.failAt(from);
            }
            return k;
        }

        boolean takeValues(Source source, Tree into, int k) {
            Kind kind = into.kindOf(k);
            if (kind == Kind.DESIGN) {
                boolean good = passGap(source) && source.takeNumber(Field.VERSION);
                into.version = good ? (int) source.value : 0;
                return good;
            }
            int texts = 0;
            int numbers = 0;
            for (int spot = 0; spot < kind.fields(); spot++) {
                Field field = kind.fieldAt(spot);
                if (field.since > into.version) {
                    continue;
                }
                if (!passGap(source)) {
                    return false;
                }
                if (field.isText()) {
                    if (!source.takeText(into, k, texts)) {
                        return false;
                    }
                    texts++;
                } else {
                    if (!source.takeNumber(field)) {
                        return false;
                    }
                    into.putNumber(k, numbers, source.value);
                    numbers++;
                }
            }
            return true;
        }

        void putNameAndValues(Tree tree, int k, Page page) {
            Kind kind = tree.kindOf(k);
            page.putTitle(kind.title);
            if (kind == Kind.DESIGN) {
                page.put(' ');
                page.putNumber(Field.VERSION, NEWEST_VERSION);
            }
            int texts = 0;
            int numbers = 0;
            for (int spot = 0; spot < kind.fields(); spot++) {
                Field field = kind.fieldAt(spot);
                page.put(' ');
                if (field.isText()) {
                    page.putText(tree, k, texts);
                    texts++;
                } else {
                    page.putNumber(field, tree.numberOf(k, numbers));
                    numbers++;
                }
            }
        }
    }

    /** Form 0: nested lists. */
    private static final class ListForm extends Form {
        boolean take(Source source, Tree into) {
            source.passBlanks();
            if (source.mark() != '(') {
                return source.failAt(source.at);
            }
            int inside = takeList(source, into, NONE);
            // Each round passes one ( or ) of the text at least.
            for (int round = 0; round < SOURCE_ROOM && inside != NONE; round++) {
                source.passBlanks();
                if (source.mark() == ')') {
                    source.pass();
                    inside = into.parentOf(inside);
                } else if (source.mark() == '(') {
                    inside = takeList(source, into, inside);
                } else {
                    return source.failAt(source.at);
                }
            }
            if (source.fault != NONE) {
                return false;
            }
            source.passBlanks();
            return source.ended() || source.failAt(source.at);
        }

        /** Takes a list up to its VALUES, an UNKNOWN whole: the object whose list is open then, or NONE with a fault. */
        private int takeList(Source source, Tree into, int parent) {
            int from = source.at;
            if (into.depthOf(parent) + 1 >= MOST_OPEN) {
                source.failAt(from);
                return NONE;
            }
            source.pass();
            source.passBlanks();
            int k = takeName(source, into, parent);
            if (k == NONE) {
                return NONE;
            }
            if (into.kindOf(k) == Kind.UNKNOWN) {
                return keepList(source, into, k, from) ? parent : NONE;
            }
            return takeValues(source, into, k) ? k : NONE;
        }

        private boolean keepList(Source source, Tree into, int k, int from) {
            // Reaching the text's end and running out of room are faults at the place reached.
            int stop = Math.min(source.count, from + into.keptRoom());
            int around = into.depthOf(k);
            int open = around + 1;
            for (int step = 0; step < SOURCE_ROOM && source.at < stop && open > around; step++) {
                int c = source.mark();
                if (c == QUOTE) {
                    if (!source.passQuoted(stop)) {
                        return false;
                    }
                    continue;
                }
                if (c == '(') {
                    if (open >= MOST_OPEN) {
                        return source.failAt(source.at);
                    }
                    open++;
                } else if (c == ')') {
                    open--;
                }
                source.pass();
            }
            if (open > around) {
                return source.failAt(stop);
            }
            into.keep(k, source, from, source.at);
            return true;
        }

        boolean passGap(Source source) {
            int from = source.at;
            source.passBlanks();
            return source.at > from || source.failAt(from);
        }

        void tell(Tree tree, Page page) {
            int k = 0;
            for (int step = 0; step < MOST_OBJECTS && tree.has(k); step++) {
                if (k > 0) {
                    page.put(FEED);
                    page.putTimes(' ', tree.depthOf(k));
                }
                int next = tree.follower(k);
                int closing = tree.depthOf(k) - Math.max(tree.depthOf(next), 0);
                if (tree.kindOf(k) == Kind.UNKNOWN) {
                    page.putKept(tree, k);
                } else {
                    page.put('(');
                    putNameAndValues(tree, k, page);
                    closing++;
                }
                page.putTimes(')', closing);
                k = next;
            }
            page.put(FEED);
        }
    }

    /** Form 1: lines with dots. */
    private static final class LineForm extends Form {
        boolean take(Source source, Tree into) {
            int last = takeLine(source, into, NONE);
            for (int line = 0; line < SOURCE_ROOM && last != NONE && !source.ended(); line++) {
                last = takeLine(source, into, last);
            }
            return last != NONE;
        }

        /** Takes a line, an UNKNOWN's all: its object, or NONE with a fault. */
        private int takeLine(Source source, Tree into, int last) {
            // Behind an UNKNOWN no line has more dots than it: those belong to it.
            int most = into.depthOf(last) + 1;
            int from = source.at;
            int dots = source.dotsFrom(from);
            if (dots > most) {
                source.failAt(from + most);
                return NONE;
            }
            if (dots == 0 && last != NONE) {
                source.failAt(from);
                return NONE;
            }
            source.at = from + dots;
            int k = takeName(source, into, holderOf(into, last, dots));
            if (k == NONE) {
                return NONE;
            }
            if (into.kindOf(k) == Kind.UNKNOWN) {
                return keepLines(source, into, k, from + dots) ? k : NONE;
            }
            return takeValues(source, into, k) && source.passOnly(FEED) ? k : NONE;
        }

        private int holderOf(Tree into, int last, int dots) {
            int holder = last;
            for (int step = 0; step < MOST_OBJECTS && into.depthOf(holder) >= dots; step++) {
                holder = into.parentOf(holder);
            }
            return holder;
        }

        private boolean keepLines(Source source, Tree into, int k, int from) {
            int dots = into.depthOf(k);
            int end = source.lineEnd(from);
            for (int line = 0; line < SOURCE_ROOM && source.dotsFrom(end + 1) > dots; line++) {
                end = source.lineEnd(end + 1);
            }
            if (end - from > into.keptRoom()) {
                return source.failAt(from + into.keptRoom());
            }
            if (end >= source.count) {
                return source.failAt(source.count);
            }
            into.keep(k, source, from, end);
            source.at = end + 1;
            return true;
        }

        boolean passGap(Source source) {
            return source.passOnly(' ');
        }

        void tell(Tree tree, Page page) {
            int k = 0;
            for (int step = 0; step < MOST_OBJECTS && tree.has(k); step++) {
                page.putTimes('.', tree.depthOf(k));
                if (tree.kindOf(k) == Kind.UNKNOWN) {
                    page.putKept(tree, k);
                } else {
                    putNameAndValues(tree, k, page);
                }
                page.put(FEED);
                k = tree.follower(k);
            }
        }
    }
}
