import java.io.IOException;

/** The document's terms, words after words: each is followed by the checks that would fail if it were broken. */
public final class TermWordsTest {
    private static final int NONE = SchematicText.NONE;
    private static final long FAR = 1_000_000_000L;
    /** To the inside of a SHEET, and of a UNIT, in both forms. */
    private static final String[] IN_SHEET = {"(design 3(sheet 1 \"\"(", "design 3\n.sheet 1 \"\"\n.."};
    private static final String[] IN_UNIT = {"(design 3(sheet 1 \"\"(symbol 0 0 \"\"(unit 1(",
        "design 3\n.sheet 1 \"\"\n..symbol 0 0 \"\"\n...unit 1\n...."};

    public static void main(String[] args) throws IOException {
        Check.open("## Terms", "## Promise 1:");
        objects();
        fields();
        outerKinds();
        pinAndArc();
        noteAndWire();
        fieldAndUnknown();
        theText();
        lists();
        lines();
        names();
        numbers();
        texts();
        unknownLists();
        unknownLines();
        faults();
        faultsOfUnknowns();
        faultsOfDots();
        writtenLists();
        writtenLines();
        writtenLengths();
        Check.words("The constants: `NONE = -1`: There is none.");
        Check.same("NONE", NONE, -1);
        Check.close();
        Check.end();
    }

    private static void objects() {
        Check.words("OBJECTS have numbers from 0");
        SchematicText x = Check.holding(0, "(design 1(sheet 1 \"\"))", 2);
        Check.same("kind(0)", x.kind(0), 0);
        Check.same("kind(1)", x.kind(1), 1);
        Check.noObject("kind(-1)", () -> x.kind(-1));
        Check.noObject("kind(2)", () -> x.kind(2));

        Check.words("at most 200");
        SchematicText full = new SchematicText(0);
        for (int k = 0; k < 200; k++) {
            Check.same("object " + k, full.object(k == 0 ? NONE : 0, k == 0 ? 0 : 1), k);
        }
        Check.same("the 201st object", full.object(0, 1), NONE);
        Check.same("the 200th stays the last", full.kind(199), 1);
        Check.noObject("kind(200)", () -> full.kind(200));
        Check.same("200 written", Check.written(full), "(design 3" + "\n (sheet 0 \"\")".repeat(199) + ")\n");
        Check.reads(0, "(design 1" + "(a)".repeat(199) + ")", 200);
        Check.fault(0, "(design 1" + "(a)".repeat(199) + "(|a))");
        Check.reads(1, "design 1\n" + ".a\n".repeat(199), 200);
        Check.fault(1, "design 1\n" + ".a\n".repeat(199) + ".|a\n");

        Check.words("each has a KIND");
        for (int kind = 0; kind < 10; kind++) {
            Check.same("kind in form 0", Sample.holding(0, kind).kind(Sample.depthOf(kind)), kind);
            Check.same("kind in form 1", Sample.holding(1, kind).kind(Sample.depthOf(kind)), kind);
        }

        Check.words("a parent (but for the one DESIGN, 0, which has none)");
        Check.same("parent(0)", x.parent(0), NONE);
        Check.same("parent(1)", x.parent(1), 0);
        Check.same("a second DESIGN", x.object(NONE, 0), NONE);
        Check.same("a DESIGN in the DESIGN", x.object(0, 0), NONE);
        Check.fault(0, "(design 1(|design 1))");
        Check.fault(1, "design 1\n.|design 1\n");
    }

    private static void fields() {
        Check.words("and fields, in this order");
        SchematicText arc = Sample.holding(0, 5);
        long[] due = {1_000_000, 2_000_000, 3_000_000, 4, 5};
        for (int what = 0; what < due.length; what++) {
            Check.same("an ARC's number " + what, arc.number(4, what), due[what]);
        }
        SchematicText field = Sample.holding(1, 8);
        Check.same("a FIELD's first text", Check.textOf(field, 2, 0), "a");
        Check.same("a FIELD's second text", Check.textOf(field, 2, 1), "b");

        Check.words("N a LENGTH: whole nanometres, -1,000,000,000 .. 1,000,000,000, told in millimetres");
        SchematicText wire = Sample.holding(0, 7, "wire -1000 1000 0.000001 -0.000001");
        long[] nanometres = {-FAR, FAR, 1, -1};
        for (int what = 0; what < 4; what++) {
            Check.same("length " + what, wire.number(2, what), nanometres[what]);
        }
        Check.fault(0, IN_SHEET[0] + "wire |1000.000001 0 0 0)))");
        Check.fault(0, IN_SHEET[0] + "wire |-1000.000001 0 0 0)))");
        Check.fault(1, IN_SHEET[1] + "wire 0 0 0 |1000.000001\n");
        Check.fault(1, IN_SHEET[1] + "wire 0 0 0 |-1000.000001\n");
        Check.no("set above", wire.set(2, 0, FAR + 1));
        Check.no("set below", wire.set(2, 0, -FAR - 1));

        Check.words("W a whole number within bounds");
        Check.fault(0, "(design 3(sheet 1|.0 \"\"))");
        Check.fault(0, "(design 3(sheet |-1 \"\"))");
        Check.fault(1, "design 3\n.sheet |-1 \"\"\n");

        Check.words("T a text of at most 40 characters, 32 .. 126");
        String forty = " ~".repeat(20);
        for (int form = 0; form <= 1; form++) {
            SchematicText sheet = Sample.holding(form, 1, "sheet 1 \"" + forty + "\"");
            Check.same("40 characters", Check.textOf(sheet, 1, 0), forty);
            Check.same("how many", sheet.text(1, 0, NONE), 40);
            Check.no("set of the 41st", sheet.set(1, -1, 'a'));
            Check.fault(form, Sample.in(form, 0, "sheet 1 \"" + forty + "|a\""));
            Check.fault(form, Sample.in(form, 0, "sheet 1 \"|\n\""));
            SchematicText empty = Sample.holding(form, 1, "sheet 1 \"\"");
            Check.same("no characters", empty.text(1, 0, NONE), 0);
        }
    }

    /** Read and made, an object of the kind can be in these kinds and in no other. */
    private static void homes(int kind, int... homes) {
        for (int parent = 0; parent < 10; parent++) {
            boolean may = false;
            for (int home : homes) {
                may |= home == parent;
            }
            int deep = Sample.depthOf(parent);
            int due = may && kind != 9 ? deep + 1 : NONE;
            Check.same("object of kind " + kind + " in " + parent, Sample.holding(0, parent).object(deep, kind), due);
            for (int form = 0; form <= 1 && parent < 9; form++) {
                if (may) {
                    Check.reads(form, Sample.in(form, parent, Sample.whole(kind)), deep + 2);
                } else {
                    Check.fault(form, Sample.in(form, parent, "|" + Sample.whole(kind)));
                }
            }
        }
    }

    /** How many numbers and texts the kind has. */
    private static void counts(int kind, int numbers, int texts) {
        SchematicText x = Sample.holding(0, kind);
        int k = Sample.depthOf(kind);
        for (int what = 0; what < numbers; what++) {
            Check.yes("number " + what, x.number(k, what) != 0);
        }
        for (int what = 0; what < texts; what++) {
            Check.same("text " + what, x.text(k, what, NONE), 1);
        }
        Check.noObject("one number too many", () -> x.number(k, numbers));
        Check.noObject("one text too many", () -> x.text(k, texts, NONE));
        Check.noObject("set of one number too many", () -> x.set(k, numbers, 1) ? 1 : 0);
        Check.noObject("set of one text too many", () -> x.set(k, -1 - texts, 65) ? 1 : 0);
    }

    /** The spot-th VALUE is the what-th number, a LENGTH. */
    private static void length(int kind, int spot, int what) {
        int k = Sample.depthOf(kind);
        for (int form = 0; form <= 1; form++) {
            String[] told = {"-1000", "1000.000000", "0", "1.5"};
            long[] due = {-FAR, FAR, 0, 1_500_000};
            for (int i = 0; i < told.length; i++) {
                SchematicText x = Sample.holding(form, kind, Sample.with(kind, spot, told[i]));
                Check.same("a length told as " + told[i], x.number(k, what), due[i]);
                Check.yes("set of the highest", x.set(k, what, FAR));
                Check.same("the highest", x.number(k, what), FAR);
                Check.yes("set of the lowest", x.set(k, what, -FAR));
                Check.no("set above", x.set(k, what, FAR + 1));
                Check.no("set below", x.set(k, what, -FAR - 1));
                Check.same("the lowest", x.number(k, what), -FAR);
            }
            for (String wrong : new String[] {"|1000.000001", "|-1000.000001", "|1001", "|-9999", "|\"\""}) {
                Check.fault(form, Sample.in(form, Sample.ABOVE[kind], Sample.with(kind, spot, wrong)));
            }
        }
    }

    /** The spot-th VALUE is the what-th number, a whole number within these bounds. */
    private static void whole(int kind, int spot, int what, int lowest, int highest) {
        int k = Sample.depthOf(kind);
        for (int form = 0; form <= 1; form++) {
            for (int v : new int[] {lowest, highest, Math.max(lowest, 1)}) {
                SchematicText x = Sample.holding(form, kind, Sample.with(kind, spot, String.valueOf(v)));
                Check.same("a number told as " + v, x.number(k, what), v);
                Check.no("set below", x.set(k, what, lowest - 1));
                Check.no("set above", x.set(k, what, highest + 1));
                Check.same("it stays", x.number(k, what), v);
                Check.yes("set of the lowest", x.set(k, what, lowest));
                Check.same("the lowest", x.number(k, what), lowest);
                Check.yes("set of the highest", x.set(k, what, highest));
                Check.same("the highest", x.number(k, what), highest);
            }
            String above = highest == 9999 ? "1000|0" : "|" + (highest + 1);
            for (String wrong : new String[] {"|" + (lowest - 1), above, "|\"\"", "|x"}) {
                Check.fault(form, Sample.in(form, Sample.ABOVE[kind], Sample.with(kind, spot, wrong)));
            }
        }
    }

    /** The spot-th VALUE is the what-th text. */
    private static void text(int kind, int spot, int what) {
        int k = Sample.depthOf(kind);
        String forty = "(\\\"\\\\)".repeat(10);
        for (int form = 0; form <= 1; form++) {
            SchematicText x = Sample.holding(form, kind, Sample.with(kind, spot, "\"" + forty + "\""));
            Check.same("a text of 40", Check.textOf(x, k, what), "(\"\\)".repeat(10));
            Check.no("a 41st character", x.set(k, -1 - what, 65));
            Check.yes("emptied", x.set(k, -1 - what, 0));
            Check.yes("set", x.set(k, -1 - what, 65));
            Check.same("a text that was set", Check.textOf(x, k, what), "A");
            for (String wrong : new String[] {"\"" + forty + "|a\"", "|1", "\"|\n\""}) {
                Check.fault(form, Sample.in(form, Sample.ABOVE[kind], Sample.with(kind, spot, wrong)));
            }
        }
    }

    private static void outerKinds() {
        Check.words("0 DESIGN.");
        counts(0, 0, 0);
        homes(0);

        Check.words("1 SHEET in a DESIGN or SHEET:");
        homes(1, 0, 1);
        counts(1, 1, 1);
        Check.words("W page 0 .. 9999");
        whole(1, 0, 0, 0, 9999);
        Check.words("T name.");
        text(1, 1, 0);

        Check.words("2 SYMBOL in a SHEET:");
        homes(2, 1);
        counts(2, 2, 1);
        Check.words("N x");
        length(2, 0, 0);
        Check.words("N y");
        length(2, 1, 1);
        Check.words("T name.");
        text(2, 2, 0);

        Check.words("3 UNIT in a SYMBOL:");
        homes(3, 2);
        counts(3, 1, 0);
        Check.words("W number 1 .. 9999.");
        whole(3, 0, 0, 1, 9999);
    }

    private static void pinAndArc() {
        Check.words("4 PIN in a UNIT:");
        homes(4, 3);
        counts(4, 3, 1);
        Check.words("N x");
        length(4, 0, 0);
        Check.words("N y");
        length(4, 1, 1);
        Check.words("T name");
        text(4, 2, 0);
        Check.words("W kind 0 .. 9");
        whole(4, 3, 2, 0, 9);
        Check.words("(from version 2 on;");
        for (int form = 0; form <= 1; form++) {
            String blank = form == 0 ? " |0" : "| 0";
            Check.fault(form, Sample.in(form, 3, "pin 0 0 \"\"" + blank, 1));
            Check.reads(form, Sample.in(form, 3, "pin 0 0 \"\" 0", 2), 5);
            Check.reads(form, Sample.in(form, 3, "pin 0 0 \"\" 0", 3), 5);
            Check.fault(form, Sample.in(form, 3, "pin 0 0 \"\"|", 2));
            Check.fault(form, Sample.in(form, 3, "pin 0 0 \"\"|", 3));
        }
        Check.words("before: 0).");
        for (int form = 0; form <= 1; form++) {
            SchematicText x = Check.holding(form, Sample.in(form, 3, "pin 1 1 \"\"", 1), 5);
            Check.same("a PIN's kind in version 1", x.number(4, 2), 0);
        }

        Check.words("5 ARC in a UNIT:");
        homes(5, 3);
        counts(5, 5, 0);
        Check.words("N x");
        length(5, 0, 0);
        Check.words("N y");
        length(5, 1, 1);
        Check.words("N radius");
        length(5, 2, 2);
        Check.words("W from");
        whole(5, 3, 3, -360, 360);
        Check.words("W to, both -360 .. 360.");
        whole(5, 4, 4, -360, 360);
    }

    private static void noteAndWire() {
        Check.words("6 NOTE in a UNIT or SHEET:");
        homes(6, 3, 1);
        counts(6, 3, 1);
        Check.words("N x");
        length(6, 0, 0);
        Check.words("N y");
        length(6, 1, 1);
        Check.words("T text");
        text(6, 2, 0);
        Check.words("N size");
        length(6, 3, 2);
        Check.words("(from version 3 on;");
        for (int form = 0; form <= 1; form++) {
            String blank = form == 0 ? " |1" : "| 1";
            Check.fault(form, Sample.in(form, 1, "note 0 0 \"\"" + blank, 1));
            Check.fault(form, Sample.in(form, 1, "note 0 0 \"\"" + blank, 2));
            Check.reads(form, Sample.in(form, 1, "note 0 0 \"\" 1", 3), 3);
            Check.fault(form, Sample.in(form, 1, "note 0 0 \"\"|", 3));
        }
        Check.words("before: 1,270,000).");
        for (int version = 1; version <= 2; version++) {
            SchematicText lists = Check.holding(0, Sample.in(0, 1, "note 1 1 \"\"", version), 3);
            Check.same("a NOTE's size in version " + version, lists.number(2, 2), 1_270_000);
            SchematicText lines = Check.holding(1, Sample.in(1, 1, "note 1 1 \"\"", version), 3);
            Check.same("a NOTE's size in version " + version, lines.number(2, 2), 1_270_000);
        }

        Check.words("7 WIRE in a SHEET:");
        homes(7, 1);
        counts(7, 4, 0);
        Check.words("N x");
        length(7, 0, 0);
        Check.words("N y");
        length(7, 1, 1);
        Check.words("N x");
        length(7, 2, 2);
        Check.words("N y.");
        length(7, 3, 3);
    }

    private static void fieldAndUnknown() {
        Check.words("8 FIELD in a SHEET or SYMBOL:");
        homes(8, 1, 2);
        counts(8, 0, 2);
        Check.words("T name");
        text(8, 0, 0);
        Check.words("T value.");
        text(8, 1, 1);

        Check.words("9 UNKNOWN in any of 0 to 3:");
        homes(9, 0, 1, 2, 3);
        counts(9, 0, 0);
        Check.words("characters that are kept");
        Check.same("kept in form 0", Check.keptOf(Sample.holding(0, 9), 1), "(odd any)");
        Check.same("kept in form 1", Check.keptOf(Sample.holding(1, 9), 1), "odd any");
        Check.words("2,000 of all such ones together.");
        SchematicText lists = Check.holding(0, "(design 1(a" + "x".repeat(997) + ")(b" + "x".repeat(997) + "))", 3);
        Check.same("the first 1,000", lists.unknown(1, NONE), 1000);
        Check.same("the second 1,000", lists.unknown(2, NONE), 1000);
        Check.same("the 2,000th character", lists.unknown(2, 999), ')');
        Check.fault(0, "(design 1(a" + "x".repeat(997) + ")(b" + "x".repeat(998) + "|))");
        SchematicText lines = Check.holding(1, "design 1\n.a" + "x".repeat(999) + "\n.b" + "x".repeat(999) + "\n", 3);
        Check.same("the first 1,000 of lines", lines.unknown(1, NONE), 1000);
        Check.same("the second 1,000 of lines", lines.unknown(2, NONE), 1000);
        Check.fault(1, "design 1\n.a" + "x".repeat(999) + "\n.b" + "x".repeat(999) + "|x\n");
        for (int again = 0; again < 3; again++) {
            Check.same("a read begins anew in form 0", lists.read(), 3);
            Check.same("a read begins anew in form 1", lines.read(), 3);
        }

        Check.words("Objects that are made have 0");
        SchematicText x = new SchematicText(0);
        int[] parents = {NONE, 0, 1, 2, 3, 3, 3, 1, 1};
        for (int kind = 0; kind < 9; kind++) {
            Check.same("object", x.object(parents[kind], kind), kind);
        }
        int[] numbers = {0, 1, 2, 0, 3, 5, 2, 4, 0};
        for (int kind = 0; kind < 9; kind++) {
            for (int what = 0; what < numbers[kind]; what++) {
                Check.same("number " + what + " of a made " + kind, x.number(kind, what), 0);
            }
        }
        Check.words("(a UNIT's number 1)");
        Check.same("a made UNIT's number", x.number(3, 0), 1);
        Check.words("empty texts");
        for (int kind : new int[] {1, 2, 4, 6, 8}) {
            Check.same("the text of a made " + kind, x.text(kind, 0, NONE), 0);
        }
        Check.same("the second text of a made FIELD", x.text(8, 1, NONE), 0);
        Check.words("and a size of 1,270,000.");
        Check.same("a made NOTE's size", x.number(6, 2), 1_270_000);
    }

    private static void theText() {
        Check.words("THE TEXT has at most 4,000 characters");
        SchematicText x = Check.fed(0, "(design 1)" + " ".repeat(3990));
        Check.no("the 4,001st character", x.unit(' '));
        Check.same("read of 4,000", x.read(), 1);
        Check.words("32 .. 126 or 10.");
        SchematicText marks = new SchematicText(0);
        for (int u = -1; u < 300; u++) {
            Check.same("unit(" + u + ")", marks.unit(u) ? 1 : 0, u >= 32 && u <= 126 || u == 10 ? 1 : 0);
        }
    }

    private static void lists() {
        Check.words("FORM 0: one LIST");
        Check.reads(0, "(design 1)", 1);
        Check.fault(0, "|");
        Check.fault(0, "|design 1\n");
        Check.fault(0, "(design 1)|(design 1)");
        Check.words("BLANKS (32, 10; any number)");
        Check.reads(0, " \n\n  \n(design 1)", 1);
        Check.words("ahead of it and behind.");
        Check.reads(0, "\n(design 1)", 1);
        Check.reads(0, "(design 1)\n", 1);
        Check.reads(0, " (design 1) ", 1);
        Check.fault(0, " \n|");
        Check.words("LIST: ( NAME VALUES LISTS )");
        Check.reads(0, "(design 1(sheet 1 \"\"(wire 0 0 0 0)(odd))(sheet 2 \"\"))", 5);
        Check.fault(0, "|[design 1)");
        Check.fault(0, "(|)");
        Check.fault(0, "(design|)");
        Check.fault(0, "(design 1|");
        Check.fault(0, "(design 1(odd)|");
        Check.fault(0, "(design 1(sheet |(wire 0 0 0 0) 1 \"\"))");
        Check.fault(0, "(design 1)|)");
        Check.words("BLANKS ahead of NAME");
        Check.reads(0, "( \n design 1( sheet 1 \"\")(\nodd))", 3);
        Check.words("of each LIST");
        Check.reads(0, "(design 1 (a)\n(b)  \n(c)(d))", 5);
        Check.words("and of )");
        Check.reads(0, "(design 1(sheet 1 \"\" \n )\n)", 2);
        Check.fault(0, "(design 1 |");
        Check.words("each VALUE has one BLANK ahead of it at least");
        Check.reads(0, "(design\n1(sheet  1 \n \"\"))", 2);
        Check.fault(0, "(design|1)");
        Check.fault(0, "(design 1(sheet|\"\"))");
        Check.fault(0, "(design 1(sheet 1|\"\"))");
        Check.fault(0, "(design 1(sheet 1 \"\"(field \"\"|\"\")))");
        Check.words("the LISTS are the objects in this one, in order.");
        SchematicText x = Check.holding(0, "(design 1(sheet 1 \"\"(sheet 2 \"\")(wire 0 0 0 0))(sheet 3 \"\"))", 5);
        int[] kinds = {0, 1, 1, 7, 1};
        int[] parents = {NONE, 0, 1, 1, 0};
        for (int k = 0; k < 5; k++) {
            Check.same("kind of " + k, x.kind(k), kinds[k]);
            Check.same("parent of " + k, x.parent(k), parents[k]);
        }
        Check.same("page of 2", x.number(2, 0), 2);
        Check.same("page of 4", x.number(4, 0), 3);
    }

    private static void lines() {
        Check.words("FORM 1: LINES");
        Check.reads(1, "design 1\n.sheet 1 \"\"\n", 2);
        Check.fault(1, "|");
        Check.fault(1, "|\n");
        Check.fault(1, "|(design 1)");
        Check.fault(1, "design 1\n|\n");
        Check.words("each with a line feed (10) at its end:");
        Check.fault(1, "design 1|");
        Check.fault(1, "design 1| \n");
        Check.fault(1, "design 1|.sheet 1 \"\"\n");
        Check.fault(1, "design 1\n.sheet 1 \"\"|");
        Check.fault(1, "design 1\n.odd|");
        Check.fault(1, "design 1\n.odd\n..x|");
        Check.words("DOTS, as many as the object is deep (the DESIGN 0, what is in it 1, and so on)");
        Check.reads(1, "design 1\n.sheet 1 \"\"\n..sheet 1 \"\"\n...sheet 1 \"\"\n", 4);
        Check.fault(1, "|.design 1\n");
        Check.fault(1, "design 1\n|sheet 1 \"\"\n");
        Check.fault(1, "design 1\n.|.sheet 1 \"\"\n");
        Check.words("NAME");
        Check.fault(1, "design 1\n.|\n");
        Check.fault(1, "design 1\n.| sheet 1 \"\"\n");
        Check.fault(1, "| design 1\n");
        Check.words("VALUES, each with one space ahead");
        Check.fault(1, "design|1\n");
        Check.fault(1, "design|\n1\n");
        Check.fault(1, "design | 1\n");
        Check.fault(1, "design 1\n.sheet 1|\"\"\n");
        Check.fault(1, "design 1\n.sheet 1 | \"\"\n");
        Check.words("an object is in the last one above it that has one dot less.");
        SchematicText x = Check.holding(1, "design 1\n.sheet 1 \"\"\n..sheet 2 \"\"\n.sheet 3 \"\"\n..sheet 4 \"\"\n...odd\n"
            + "...wire 0 0 0 0\n..odd\n.odd\n", 9);
        int[] parents = {NONE, 0, 1, 0, 3, 4, 4, 3, 0};
        for (int k = 0; k < 9; k++) {
            Check.same("parent of " + k, x.parent(k), parents[k]);
        }
    }

    /** With one letter another one, a NAME is not the kind's any more. */
    private static void anotherLetter(int form, int kind) {
        String whole = Sample.whole(kind);
        for (int i = 0; i < Sample.NAMES[kind].length(); i++) {
            String other = whole.substring(0, i) + "q" + whole.substring(i + 1);
            Check.same("kind of " + other, Sample.holding(form, kind, other).kind(Sample.depthOf(kind)), 9);
        }
    }

    private static void names() {
        Check.words("NAME: the kind's in small letters, as design.");
        for (int form = 0; form <= 1; form++) {
            Check.fault(form, form == 0 ? "(|Design 1)" : "|Design 1\n");
            Check.fault(form, form == 0 ? "(design|X 1)" : "design|X 1\n");
            for (int kind = 1; kind < 9; kind++) {
                Check.same("kind", Sample.holding(form, kind).kind(Sample.depthOf(kind)), kind);
                Check.fault(form, Sample.in(form, Sample.ABOVE[kind], "|" + Sample.whole(kind).toUpperCase()));
                anotherLetter(form, kind);
            }
        }
        Check.words("VALUES: those of the fields that the version has");
        String[] pins = {"pin 0 0 \"\"", "pin 0 0 \"\" 0", "pin 0 0 \"\" 0"};
        String[] notes = {"note 0 0 \"\"", "note 0 0 \"\"", "note 0 0 \"\" 1"};
        for (int version = 1; version <= 3; version++) {
            for (int form = 0; form <= 1; form++) {
                Check.reads(form, Sample.in(form, 3, pins[version - 1], version), 5);
                Check.reads(form, Sample.in(form, 3, notes[version - 1], version), 5);
                for (int kind : new int[] {1, 2, 3, 5, 7, 8}) {
                    String inner = Sample.in(form, Sample.ABOVE[kind], Sample.whole(kind), version);
                    Check.reads(form, inner, Sample.depthOf(kind) + 1);
                }
            }
        }
        for (int kind = 0; kind < 9; kind++) {
            String whole = Sample.whole(kind);
            Check.fault(0, Sample.in(0, Sample.ABOVE[kind], whole + " |1"));
            Check.fault(1, Sample.in(1, Sample.ABOVE[kind], whole + "| 1"));
            String less = whole.substring(0, whole.lastIndexOf(' '));
            for (int form = 0; form <= 1; form++) {
                Check.fault(form, Sample.in(form, Sample.ABOVE[kind], less + "|"));
                Check.fault(form, Sample.in(form, Sample.ABOVE[kind], less + " |"));
            }
        }
        Check.words("the DESIGN has one: the VERSION, W 1 .. 3.");
        for (int form = 0; form <= 1; form++) {
            String end = form == 0 ? ")" : "\n";
            String begin = form == 0 ? "(design " : "design ";
            for (int version = 1; version <= 3; version++) {
                Check.same("version", Check.holding(form, begin + version + end, 1).version(), version);
            }
            Check.fault(form, begin + "|0" + end);
            Check.fault(form, begin + "|4" + end);
            Check.fault(form, begin + "|-1" + end);
            Check.fault(form, begin + (form == 0 ? "1 |1" : "1| 1") + end);
        }
    }

    private static void lengthRead(String told, long due) {
        for (int form = 0; form <= 1; form++) {
            Check.same("N " + told, Sample.holding(form, 7, "wire " + told + " 0 0 0").number(2, 0), due);
        }
    }

    private static void wholeRead(String told, long due) {
        for (int form = 0; form <= 1; form++) {
            Check.same("W " + told, Sample.holding(form, 5, "arc 0 0 0 " + told + " 0").number(4, 3), due);
        }
    }

    private static void inWire(String value) {
        Check.fault(0, IN_SHEET[0] + "wire " + value);
        Check.fault(1, IN_SHEET[1] + "wire " + value);
    }

    private static void inArc(String value) {
        Check.fault(0, IN_UNIT[0] + "arc 0 0 0 " + value);
        Check.fault(1, IN_UNIT[1] + "arc 0 0 0 " + value);
    }

    private static void numbers() {
        Check.words("N: perhaps -");
        lengthRead("-1", -1_000_000);
        lengthRead("-0", 0);
        inWire("-|-1 0 0 0");
        inWire("|+1 0 0 0");
        inWire("-| 1 0 0 0");
        Check.words("one to four digits");
        lengthRead("7", 7_000_000);
        lengthRead("9", 9_000_000);
        inWire("|/ 0 0 0");
        inWire("|: 0 0 0");
        inWire("1|/ 0 0 0");
        inWire("1|: 0 0 0");
        lengthRead("0999", 999_000_000);
        lengthRead("-0000", 0);
        inWire("|.5 0 0 0");
        inWire("-|.5 0 0 0");
        inWire("0000|0 0 0 0");
        inWire("-0000|1.5 0 0 0");
        Check.words("perhaps . and one to six digits.");
        lengthRead("1.5", 1_500_000);
        lengthRead("-0.123456", -123_456);
        lengthRead("0.000000", 0);
        inWire("1.| 0 0 0");
        inWire("1.|");
        inWire("1.|-5 0 0 0");
        inWire("0.000000|0 0 0 0");
        inWire("1|,5 0 0 0");
        inWire("1.5|.5 0 0 0");
        Check.words("W: perhaps -");
        wholeRead("-9", -9);
        wholeRead("-0", 0);
        inArc("-|-9 0");
        inArc("|+9 0");
        inArc("-| 9 0");
        Check.words("one to four digits.");
        wholeRead("7", 7);
        wholeRead("0360", 360);
        wholeRead("-0360", -360);
        inArc("0000|9 0");
        inArc("-0000|9 0");
        inArc("9|.0 0");
        inArc("-|");
    }

    private static void inName(String value) {
        Check.fault(0, "(design 3(sheet 1 " + value);
        Check.fault(1, "design 3\n.sheet 1 " + value);
    }

    private static void texts() {
        Check.words("T: in quotes (\")");
        inName("|a");
        inName("|'a'");
        inName("\"a|");
        inName("\"|");
        Check.words("characters 32 .. 126");
        StringBuilder all = new StringBuilder();
        for (char c = 32; c <= 126; c++) {
            all.append(c == '"' || c == '\\' ? "" : String.valueOf(c));
        }
        for (int from = 0; from < all.length(); from += 40) {
            String part = all.substring(from, Math.min(from + 40, all.length()));
            Check.same("characters", Check.textOf(Sample.holding(0, 1, "sheet 1 \"" + part + "\""), 1, 0), part);
            Check.same("characters", Check.textOf(Sample.holding(1, 1, "sheet 1 \"" + part + "\""), 1, 0), part);
        }
        inName("\"a|\n\"");
        Check.words("but for \" and \\ (92): these stand as \\\" and \\\\.");
        for (int form = 0; form <= 1; form++) {
            SchematicText x = Sample.holding(form, 1, "sheet 1 \"\\\"\\\\\\\"n\"");
            Check.same("escapes", Check.textOf(x, 1, 0), "\"\\\"n");
            SchematicText forty = Sample.holding(form, 1, "sheet 1 \"" + "\\\"".repeat(40) + "\"");
            Check.same("an escape is one character", forty.text(1, 0, NONE), 40);
        }
        inName("\"\\|n\"");
        inName("\"\\| \"");
        inName("\"\\|");
        inName("\"\\\\\"|\"");
        inName("\"" + "\\\"".repeat(40) + "|\\\"\"");
    }

    private static void kept(int form, String inner, String due) {
        SchematicText x = Check.holding(form, form == 0 ? "(design 3" + inner + ")" : "design 3\n." + inner + "\n", 2);
        Check.same("kept", Check.keptOf(x, 1), due);
    }

    private static void unknownLists() {
        Check.words("UNKNOWN is an object with another NAME (small letters, one or more).");
        for (String name : new String[] {"a", "z", "desig", "designs", "sheetx", "unknown", "pi", "pins"}) {
            kept(0, "(" + name + ")", "(" + name + ")");
            kept(1, name, name);
        }
        Check.fault(0, "(design 3(|))");
        Check.fault(0, "(design 3(|Odd))");
        Check.fault(0, "(design 3(|`))");
        Check.fault(0, "(design 3(|{))");
        Check.fault(0, "(design 3(sheet|{ 1 \"\"))");
        Check.fault(0, "(design 3(sheet|` 1 \"\"))");
        Check.fault(1, "design|~ 3\n");
        Check.fault(0, "(design 3(|1odd))");
        Check.fault(1, "design 3\n.|Odd\n");
        Check.fault(1, "design 3\n.|\n");
        Check.fault(0, "(design 3(sheet|_ 1 \"\"))");
        Check.words("In form 0 all is kept from its ( to the ) that closes it:");
        kept(0, "(a)", "(a)");
        kept(0, " ( \n a (b (c)) (d)\n ) ", "( \n a (b (c)) (d)\n )");
        SchematicText two = Check.holding(0, "(design 3(a 1)(b 2))", 3);
        Check.same("the first one", Check.keptOf(two, 1), "(a 1)");
        Check.same("the second one", Check.keptOf(two, 2), "(b 2)");
        Check.words("there may stand any characters");
        StringBuilder all = new StringBuilder("(a");
        for (char c = 32; c <= 126; c++) {
            all.append("()\"".indexOf(c) < 0 ? String.valueOf(c) : "");
        }
        kept(0, all.append("\n)").toString(), all.toString());
        kept(0, "(aB\\x \\)", "(aB\\x \\)");
        kept(0, "(a (design 9) (1) ())", "(a (design 9) (1) ())");
        Check.words("but ( and ) are pairs");
        Check.fault(0, "(design 3(a (|");
        Check.fault(0, "(design 3(a ()|");
        Check.fault(0, "(design 3(a))|)");
        Check.fault(0, "(design 3(a \\))|)");
        Check.words("(at most 100 open, the DESIGN's and all others, too)");
        Check.reads(0, "(design 3(a" + "(".repeat(98) + ")".repeat(98) + "))", 2);
        Check.fault(0, "(design 3(a" + "(".repeat(98) + "|(" + ")".repeat(99) + "))");
        Check.reads(0, "(design 3(sheet 1 \"\"(a" + "(".repeat(97) + ")".repeat(97) + ")))", 3);
        Check.fault(0, "(design 3(sheet 1 \"\"(a" + "(".repeat(97) + "|(" + ")".repeat(98) + ")))");
        Check.reads(0, "(design 3" + "(sheet 1 \"\"".repeat(99) + ")".repeat(100), 100);
        Check.fault(0, "(design 3" + "(sheet 1 \"\"".repeat(99) + "|(sheet 1 \"\")" + ")".repeat(100));
        Check.reads(0, "(design 3(a" + "()".repeat(120) + "))", 2);
        Check.words("and a \" begins a T");
        kept(0, "(a \"(\" \")\")", "(a \"(\" \")\")");
        kept(0, "(a\"\\\")\\\\\")", "(a\"\\\")\\\\\")");
        Check.fault(0, "(design 3(a \"\\|)\"))");
        Check.fault(0, "(design 3(a \"\\|(b\"))");
        Check.words("(of any length, also with line feeds)");
        String longText = "(a \"" + "x\n".repeat(200) + "\")";
        kept(0, longText, longText);
        Check.words("that must end.");
        Check.fault(0, "(design 3(a \"))|");
        Check.fault(0, "(design 3(a \"\\\"))|");
        Check.fault(0, "(design 3(a \"\" \"))|");
    }

    private static void unknownLines() {
        Check.words("In form 1 all from its NAME is kept");
        kept(1, "odd", "odd");
        kept(1, "odd ( \" \\ )", "odd ( \" \\ )");
        kept(1, "odd1 Odd", "odd1 Odd");
        Check.words("up to the end (without the line feed) of its last LINE:");
        kept(1, "odd ", "odd ");
        kept(1, "odd\n..x", "odd\n..x");
        Check.words("the LINES behind it with more dots belong to it");
        kept(1, "odd\n..a\n...b\n..", "odd\n..a\n...b\n..");
        SchematicText x = Check.holding(1, "design 3\n.sheet 1 \"\"\n..odd\n...a\n....b\n..wire 0 0 0 0\n.odd\n..wire\n.odd\n", 6);
        Check.same("in a SHEET", Check.keptOf(x, 2), "odd\n...a\n....b");
        Check.same("as many dots", x.kind(3), 7);
        Check.same("in the DESIGN", Check.keptOf(x, 4), "odd\n..wire");
        Check.same("as many dots again", Check.keptOf(x, 5), "odd");
        Check.words("whatever they hold.");
        kept(1, "odd\n..\n..........\n.. \n..1\n..\"(\n..sheet\n..design 9",
            "odd\n..\n..........\n.. \n..1\n..\"(\n..sheet\n..design 9");
    }

    private static void faults() {
        Check.words("A FAULT's place is that of the first character with which no such text goes on");
        Check.fault(0, "(design 1|x)");
        Check.fault(0, "(design 1 |x ()");
        Check.fault(0, "(design 1)\n|x)x");
        Check.fault(1, "design 1|x\n?\n");
        Check.fault(1, "design 1\n|?\n?\n");
        Check.words("or the text's length");
        String lists = "(design 2(sheet 1 \"a\"(wire 0 -1.5 0 0)(a \"\\\\(\" (b)))(c) )";
        int[] known = {0, 1, 7, 8, 9, 10, 15, 16, 17, 18, 19, 20, 21};
        for (int size : known) {
            Check.fault(0, lists.substring(0, size) + "|");
        }
        for (int size = lists.indexOf("(a ") + 2; size < lists.indexOf("(c)") + 1; size++) {
            Check.fault(0, lists.substring(0, size) + "|");
        }
        String lines = "design 2\n.sheet 1 \"a\"\n..odd\n...x\n";
        for (int size : new int[] {0, 6, 7, 8, 10, 15, 16, 17, 18, 19, 20, 21, 23, 24, 25, 26}) {
            Check.fault(1, lines.substring(0, size) + "|");
        }

        Check.words("but for a VALUE N or W out of its bounds");
        Check.fault(0, "(design |4)");
        Check.fault(1, "design |0\n");
        inWire("0 |-1001 0 0");
        inWire("0 0 |9999.999999 0");
        inArc("0 |361");
        Check.words("(asked when it has ended");
        Check.fault(0, "(design |4");
        Check.fault(0, "(design |4x");
        Check.fault(1, "design |4");
        Check.fault(1, "design |4x");
        Check.reads(0, "(design 0001)", 1);
        inWire("1001.|x 0 0 0");
        inWire("|1001.5x 0 0 0");
        Check.words("behind a digit too many)");
        Check.fault(0, "(design 9999|9)");
        Check.fault(1, "design 1000|0\n");
        inWire("9999|9 0 0 0");
        inWire("1001.000000|0 0 0 0");
        inArc("-9999|9 0");
        Check.words("that of its first character");
        Check.fault(0, "(design 3(sheet \n |-1 \"\"))");
        inArc("|-361 0");

        Check.words("for a NAME of a kind that can't be in this parent");
        Check.fault(0, "(design 1( |wire 0 0 0 0))");
        Check.fault(0, "(design 1(|wire");
        Check.fault(0, "(design 1(|pin?))");
        Check.fault(1, "design 1\n.|wire 0 0 0 0\n");
        Check.fault(0, IN_SHEET[0] + "wire 0 0 0 0(|odd))))");
        Check.fault(1, IN_SHEET[1] + "wire 0 0 0 0\n...|odd\n");
        Check.words("(the first one: that is not design)");
        Check.fault(0, "( |sheet 1 \"\")");
        Check.fault(0, "(|odd)");
        Check.fault(1, "|sheet 1 \"\"\n");
        Check.fault(1, "|odd\n");
        Check.words("that of its first letter");
        Check.fault(0, "(\n|designs 1)");
        Check.fault(1, "|desig 1\n");
        Check.fault(0, "(design 1(\n |unit 1))");

        Check.words("for one object too many");
        Check.fault(0, "(design 1" + "(sheet 1 \"\")".repeat(199) + "( |sheet 1 \"\"))");
        Check.fault(0, "(design 1" + "(a)".repeat(199) + "(\n|sheet 1 \"\"))");
        Check.words("(in form 1 likewise)");
        Check.fault(1, "design 1\n" + ".sheet 1 \"\"\n".repeat(199) + ".|sheet 1 \"\"\n");
        Check.fault(1, "design 1\n" + ".a\n..x\n".repeat(199) + ".|a\n");
        Check.words("that of its NAME");
        Check.fault(0, "(design 1" + "(a)".repeat(199) + "(|odd");
        Check.fault(1, "design 1\n" + ".a\n".repeat(199) + ".|odd");
    }

    private static void faultsOfUnknowns() {
        Check.words("for one character too many in UNKNOWNs that character");
        Check.reads(0, "(design 1(a" + " ".repeat(1997) + "))", 2);
        Check.fault(0, "(design 1(a" + " ".repeat(1998) + "|))");
        Check.fault(0, "(design 1(a" + " ".repeat(1998) + "| ");
        Check.fault(0, "(design 1(a" + " ".repeat(1997) + ")|(b))");
        Check.fault(0, "(design 1(a\"" + " ".repeat(1997) + "|\"))");
        Check.fault(0, "(design 1(a\"" + " ".repeat(1997) + "|\\\"\"))");
        Check.fault(0, "(design 1(a\"" + " ".repeat(1996) + "\\|\"\"))");
        Check.fault(0, "(design 1(" + "a".repeat(1999) + "|a))");
        Check.reads(1, "design 1\n." + "a".repeat(2000) + "\n", 2);
        Check.fault(1, "design 1\n." + "a".repeat(2000) + "|a\n");
        Check.fault(1, "design 1\n." + "a".repeat(2000) + "|\n..\n");
        Check.reads(1, "design 1\n.a\n.." + "x".repeat(1996) + "\n", 2);
        Check.fault(1, "design 1\n.a\n.." + "x".repeat(1996) + "|x\n");
        Check.fault(1, "design 1\n." + "a".repeat(2000) + "\n.|b\n");
    }

    private static void faultsOfDots() {
        Check.words("for too many dots (more than one more than the last object above that is not UNKNOWN has");
        Check.fault(1, "design 1\n.|.sheet 1 \"\"\n");
        Check.fault(1, "design 1\n.sheet 1 \"\"\n..|.sheet 1 \"\"\n");
        Check.fault(1, "design 1\n.sheet 1 \"\"\n..sheet 1 \"\"\n.sheet 1 \"\"\n..|.sheet 1 \"\"\n");
        Check.fault(1, "design 1\n.sheet 1 \"\"\n..wire 0 0 0 0\n...|.odd\n");
        Check.reads(1, "design 1\n.odd\n...............sheet\n", 2);
        Check.fault(1, "|.design 1\n");
        Check.words("none behind the first line)");
        Check.fault(1, "design 1\n|design 1\n");
        Check.fault(1, "design 1\n.sheet 1 \"\"\n|sheet 1 \"\"\n");
        Check.fault(1, "design 1\n.odd\n..x\n|odd\n");
        Check.words("the first dot too many");
        Check.fault(1, "design 1\n.|.....\n");
        Check.fault(1, "design 1\n.|.");
        Check.fault(1, "|...design 1\n");
        Check.words("or the NAME");
        Check.fault(1, "design 1\n.sheet 1 \"\"\n|odd\n");
        Check.fault(1, "design 1\n|o");
        Check.words("for a 101st ( that.");
        Check.fault(0, "(design 1(a" + "(".repeat(98) + "|(");
        Check.fault(0, "(design 1(a" + "(b".repeat(98) + "|(b" + ")".repeat(101));
        Check.fault(0, "(design 1" + "(sheet 1 \"\"".repeat(99) + "|(sheet");
        Check.fault(0, "(design 1" + "(sheet 1 \"\"".repeat(99) + "\n|(\nodd");
        Check.fault(0, "(design 1" + "(sheet 1 \"\"".repeat(98) + "(odd |(");
    }

    private static void written(int form, String text, String due) {
        SchematicText x = Check.fed(form, text);
        Check.yes("read of " + text, x.read() > 0);
        Check.same("written", Check.written(x), due);
    }

    private static void writtenLists() {
        Check.words("WRITTEN in version 3:");
        written(0, "(design 1)", "(design 3)\n");
        written(1, "design 2\n", "design 3\n");
        written(0, Sample.in(0, 3, "pin 1 2 \"a\"", 1),
            "(design 3\n (sheet 7 \"a\"\n  (symbol 1 2 \"a\"\n   (unit 7\n    (pin 1 2 \"a\" 0)))))\n");
        written(1, Sample.in(1, 1, "note 1 2 \"a\"", 2), "design 3\n.sheet 7 \"a\"\n..note 1 2 \"a\" 1.27\n");
        Check.words("form 0: ( and NAME, a space ahead of each VALUE");
        written(0, "(design 3 ( sheet\n7   \"a\"))", "(design 3\n (sheet 7 \"a\"))\n");
        Check.words("each object in it on a new line with as many spaces ahead as it is deep");
        written(0, "(design 3(sheet 7 \"\"(wire 1 2 3 4)(field \"a\" \"b\"))(sheet 8 \"\"))",
            "(design 3\n (sheet 7 \"\"\n  (wire 1 2 3 4)\n  (field \"a\" \"b\"))\n (sheet 8 \"\"))\n");
        written(0, "(design 3(a\n  (b)) (c)(sheet 1 \"\"( d)))", "(design 3\n (a\n  (b))\n (c)\n (sheet 1 \"\"\n  ( d)))\n");
        Check.words("and ) behind the last one");
        written(0, "(design 3(sheet 1 \"\"(sheet 2 \"\"(sheet 3 \"\"\n)\n)\n)\n)",
            "(design 3\n (sheet 1 \"\"\n  (sheet 2 \"\"\n   (sheet 3 \"\"))))\n");
        written(0, "(design 3(sheet 1 \"\"(a) )\n)", "(design 3\n (sheet 1 \"\"\n  (a)))\n");
        Check.words("a line feed behind all.");
        SchematicText x = Check.holding(0, "\n(design 3)\n\n", 1);
        Check.same("the line feed", x.write(10), 10);
        Check.same("behind it", x.write(11), NONE);
    }

    private static void writtenLines() {
        Check.words("Form 1: LINES.");
        for (int kind = 0; kind < 10; kind++) {
            String text = Sample.in(1, Sample.ABOVE[kind], Sample.whole(kind));
            written(1, text, text);
        }
        written(1, "design 3\n.odd \"\n...x\n..\n.sheet 1 \"\\\"\\\\\"\n..a\n...\n", "design 3\n.odd \"\n...x\n..\n.sheet 1 \"\\\"\\\\\"\n..a\n...\n");
        SchematicText x = Check.holding(1, "design 3\n.odd\n", 2);
        Check.same("the last line feed", x.write(13), 10);
        Check.same("behind it", x.write(14), NONE);
    }

    private static void length(String told, String due) {
        written(0, IN_SHEET[0] + "wire 1 " + told + " 1 1)))", "(design 3\n (sheet 1 \"\"\n  (wire 1 " + due + " 1 1)))\n");
        written(1, IN_SHEET[1] + "wire 1 " + told + " 1 1\n", IN_SHEET[1] + "wire 1 " + due + " 1 1\n");
    }

    private static void writtenLengths() {
        Check.words("N without digits that change nothing:");
        length("0012.5", "12.5");
        length("0100", "100");
        length("10", "10");
        length("-0001.010", "-1.01");
        length("1000", "1000");
        Check.words("no 0 at its end behind the point");
        length("1.500000", "1.5");
        length("0.100", "0.1");
        length("0.000001", "0.000001");
        length("-7.000010", "-7.00001");
        Check.words("no point without digits");
        length("1.0", "1");
        length("-20.000000", "-20");
        length("0.000000", "0");
        Check.words("one 0 ahead of it if there is no other one");
        length("0.5", "0.5");
        length("0000.5", "0.5");
        length("-0.5", "-0.5");
        Check.words("no - ahead of 0.");
        length("-0", "0");
        length("-0.000000", "0");
        length("-0000", "0");
        length("-0.000001", "-0.000001");
        written(1, Sample.in(1, 0, "sheet -0 \"\""), "design 3\n.sheet 0 \"\"\n");
    }
}
