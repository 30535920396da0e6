/** Promises 1 to 14, one after the other; the places of faults are FaultTest's. */
public final class PromiseTest {
    private static final int NONE = SchematicText.NONE;

    private static final String LISTS = "(design 3 (sheet 7 \"A\\\"b\\\\\" (symbol 1.5 -2 \"U\" (unit 2 "
        + "(pin 0 0.1 \"p\" 9) (arc 1 2 3 -360 360) (note 4 5 \"n\" 6)) (field \"f\" \"v\")) "
        + "(wire 0 -1.5 1000 0.000001)) (odd (x) \")\") (sheet 8 \"\"))";
    private static final String LISTS_WRITTEN = "(design 3\n (sheet 7 \"A\\\"b\\\\\"\n  (symbol 1.5 -2 \"U\"\n"
        + "   (unit 2\n    (pin 0 0.1 \"p\" 9)\n    (arc 1 2 3 -360 360)\n    (note 4 5 \"n\" 6))\n"
        + "   (field \"f\" \"v\"))\n  (wire 0 -1.5 1000 0.000001))\n (odd (x) \")\")\n (sheet 8 \"\"))\n";
    private static final String LINES = "design 3\n.sheet 7 \"A\\\"b\\\\\"\n..symbol 1.5 -2 \"U\"\n...unit 2\n"
        + "....pin 0 0.1 \"p\" 9\n....arc 1 2 3 -360 360\n....note 4 5 \"n\" 6\n...field \"f\" \"v\"\n"
        + "..wire 0 -1.5 1000 0.000001\n.odd (x \"\n.....\n..sheet\n.sheet 8 \"\"\n";
    private static final int[] KINDS = {0, 1, 2, 3, 4, 5, 6, 8, 7, 9, 1};
    private static final int[] PARENTS = {NONE, 0, 1, 2, 3, 3, 3, 2, 1, 0, 0};
    private static final int[] NUMBERS = {0, 1, 2, 1, 3, 5, 3, 4, 0, 0};
    private static final int[] TEXTS = {0, 1, 1, 0, 1, 0, 1, 0, 2, 0};

    public static void main(String[] args) {
        newObject();
        unit();
        read();
        kindAndParent();
        number();
        text();
        version();
        unknown();
        write();
        writeLengths();
        writeMost();
        object();
        objectKinds();
        objectRoom();
        setNumbers();
        setTexts();
        depth();
        clear();
        Check.end();
    }

    private static void newObject() {
        for (int form : new int[] {0, 1, -1, 2, Integer.MIN_VALUE, Integer.MAX_VALUE}) {
            SchematicText x = new SchematicText(form);
            Check.same("a new object's read", x.read(), -1);
            Check.same("a new object's depth", x.depth(), 0);
            Check.same("a new object's version", x.version(), 0);
            Check.noObject("a new object's kind", () -> x.kind(0));
            Check.feed(x, form <= 0 ? "(design 1)" : "design 1\n");
            Check.same("read with form " + form, x.read(), 1);
            Check.same("written with form " + form, Check.written(x), form <= 0 ? "(design 3)\n" : "design 3\n");
        }
        Check.same("NONE", SchematicText.NONE, -1);
    }

    private static void unit() {
        SchematicText x = new SchematicText(0);
        for (int u : new int[] {-1, 0, 9, 11, 13, 31, 127, 128, 255, 266, 65568, Integer.MIN_VALUE, Integer.MAX_VALUE}) {
            Check.no("unit(" + u + ")", x.unit(u));
        }
        for (int u : new int[] {10, 32, 10, 33, 126}) {
            Check.yes("unit(" + u + ")", x.unit(u));
        }
        Check.same("refused characters are not in the text", x.read(), -4);
        x.clear();
        for (int i = 0; i < 4000; i++) {
            Check.yes("character " + i, x.unit(32));
        }
        Check.no("the 4001st character", x.unit(32));
        Check.same("read of 4000 blanks", x.read(), -4001);
        x.clear();
        Check.yes("unit behind clear", x.unit(32));
    }

    private static void read() {
        SchematicText x = Check.holding(0, LISTS, 11);
        Check.same("a second read", x.read(), 11);
        Check.feed(x, "x");
        Check.same("read with a fault", x.read(), -1 - LISTS.length());
        Check.same("all stays", Check.written(x), LISTS_WRITTEN);
        x.clear();
        Check.feed(x, "(design 1 (sheet 1 \"\" (odd");
        Check.same("read of a beginning", x.read(), -27);
        Check.same("all stays again", Check.written(x), LISTS_WRITTEN);
        Check.same("the version stays", x.version(), 3);
        Check.same("the depth stays", x.depth(), 5);
        Check.feed(x, ")))");
        Check.same("read of the rest", x.read(), 3);
        Check.same("the objects took the others' place", Check.written(x), "(design 3\n (sheet 1 \"\"\n  (odd)))\n");
        Check.same("depth then", x.depth(), 3);
        Check.noObject("the old objects are gone", () -> x.kind(3));

        Check.reads(0, "\n (  \ndesign \n 0002(sheet -0 \"\"(wire -0 -0.0 0001.500000 9)\n)\n )\n  ", 3);
        Check.reads(0, "(design 1)", 1);
        Check.reads(1, "design 1\n", 1);
        Check.reads(1, "design 0003\n.sheet -0 \"\"\n..wire -0 -0.0 0001.500000 9\n", 3);
        Check.reads(0, "(design 1 (sheet 1 \"\" (symbol 0 0 \"\" (unit 1 (pin 0 0 \"\") (note 0 0 \"\")))))", 6);
        Check.reads(0, "(design 2 (sheet 1 \"\" (symbol 0 0 \"\" (unit 1 (pin 0 0 \"\" 0) (note 0 0 \"\")))))", 6);
        Check.reads(0, "(design 3 (sheet 1 \"\" (symbol 0 0 \"\" (unit 1 (pin 0 0 \"\" 0) (note 0 0 \"\" 1)))))", 6);
    }

    private static void kindAndParent() {
        for (int form = 0; form <= 1; form++) {
            SchematicText x = Check.holding(form, form == 0 ? LISTS : LINES, 11);
            for (int k = 0; k < KINDS.length; k++) {
                Check.same("kind of " + k, x.kind(k), KINDS[k]);
                Check.same("parent of " + k, x.parent(k), PARENTS[k]);
            }
            for (int k : new int[] {-1, 11, 200, Integer.MIN_VALUE, Integer.MAX_VALUE}) {
                Check.noObject("kind of " + k, () -> x.kind(k));
                Check.noObject("parent of " + k, () -> x.parent(k));
            }
        }
    }

    private static void number() {
        SchematicText x = Check.holding(0, LISTS, 11);
        long[][] due = {{}, {7}, {1_500_000, -2_000_000}, {2}, {0, 100_000, 9},
            {1_000_000, 2_000_000, 3_000_000, -360, 360}, {4_000_000, 5_000_000, 6_000_000}, {},
            {0, -1_500_000, 1_000_000_000, 1}, {}, {8}};
        for (int k = 0; k < due.length; k++) {
            for (int what = 0; what < due[k].length; what++) {
                Check.same("number " + what + " of " + k, x.number(k, what), due[k][what]);
            }
            for (int what : new int[] {-1, due[k].length, 5, Integer.MIN_VALUE, Integer.MAX_VALUE}) {
                int object = k;
                Check.noObject("number " + what + " of " + k, () -> x.number(object, what));
            }
        }
        Check.noObject("number of no object", () -> x.number(11, 0));
        Check.noObject("number of NONE", () -> x.number(-1, 0));
        SchematicText older = Check.holding(1,
            "design 1\n.sheet 0 \"\"\n..symbol 0 0 \"\"\n...unit 1\n....pin 0 0 \"\"\n....note 0 0 \"\"\n", 6);
        Check.same("a pin's kind before version 2", older.number(4, 2), 0);
        Check.same("a note's size before version 3", older.number(5, 2), 1_270_000);
        String lengths = "(design 3(sheet 0 \"\"(wire -1000 1000.000000 -0.000001 0.1)(wire 0123.45 -9.99 12.345678 -0)))";
        SchematicText wires = Check.holding(0, lengths, 4);
        long[] nanometres = {-1_000_000_000, 1_000_000_000, -1, 100_000, 123_450_000, -9_990_000, 12_345_678, 0};
        for (int i = 0; i < 8; i++) {
            Check.same("length " + i, wires.number(2 + i / 4, i % 4), nanometres[i]);
        }
    }

    private static void text() {
        SchematicText x = Check.holding(0, LISTS, 11);
        Check.same("a sheet's name", Check.textOf(x, 1, 0), "A\"b\\");
        Check.same("a symbol's name", Check.textOf(x, 2, 0), "U");
        Check.same("a pin's name", Check.textOf(x, 4, 0), "p");
        Check.same("a note's text", Check.textOf(x, 6, 0), "n");
        Check.same("a field's name", Check.textOf(x, 7, 0), "f");
        Check.same("a field's value", Check.textOf(x, 7, 1), "v");
        Check.same("an empty name", x.text(10, 0, NONE), 0);
        for (int i : new int[] {-2, 4, 40, Integer.MIN_VALUE, Integer.MAX_VALUE}) {
            Check.noObject("character " + i, () -> x.text(1, 0, i));
        }
        Check.noObject("a character of an empty text", () -> x.text(10, 0, 0));
        for (int k = 0; k < KINDS.length; k++) {
            int object = k;
            for (int what : new int[] {-1, TEXTS[KINDS[k]], 2, Integer.MIN_VALUE, Integer.MAX_VALUE}) {
                Check.noObject("text " + what + " of " + k, () -> x.text(object, what, NONE));
            }
        }
        Check.noObject("text of no object", () -> x.text(11, 0, NONE));
        Check.noObject("text of NONE", () -> x.text(-1, 0, NONE));
        String forty = "(design 1(sheet 1 \"" + "\\\"".repeat(20) + "~ ".repeat(10) + "\"))";
        SchematicText full = Check.holding(0, forty, 2);
        Check.same("a text of 40", Check.textOf(full, 1, 0), "\"".repeat(20) + "~ ".repeat(10));
    }

    private static void version() {
        SchematicText x = new SchematicText(1);
        Check.same("version before", x.version(), 0);
        x.object(NONE, 0);
        Check.same("version with objects that were made", x.version(), 0);
        for (int v = 1; v <= 3; v++) {
            x.clear();
            Check.feed(x, "design " + v + "\n");
            Check.same("read", x.read(), 1);
            Check.same("version", x.version(), v);
        }
        x.clear();
        Check.same("version behind clear", x.version(), 3);
        Check.feed(x, "design 1\nx");
        x.read();
        Check.same("version behind a fault", x.version(), 3);
        x.object(0, 1);
        Check.same("version behind object", x.version(), 3);
    }

    private static void unknown() {
        SchematicText lists = Check.holding(0, LISTS, 11);
        Check.same("kept in form 0", Check.keptOf(lists, 9), "(odd (x) \")\")");
        SchematicText lines = Check.holding(1, LINES, 11);
        Check.same("kept in form 1", Check.keptOf(lines, 9), "odd (x \"\n.....\n..sheet");
        for (int i : new int[] {-2, 13, 2000, Integer.MIN_VALUE, Integer.MAX_VALUE}) {
            Check.noObject("kept character " + i, () -> lists.unknown(9, i));
        }
        for (int k : new int[] {-1, 11, Integer.MIN_VALUE, Integer.MAX_VALUE}) {
            Check.noObject("unknown of no object", () -> lists.unknown(k, NONE));
        }
        for (int k = 0; k < 9; k++) {
            int object = k;
            Check.fails("unknown of another kind", IllegalStateException.class, () -> lists.unknown(object, NONE));
            Check.fails("unknown of another kind", IllegalStateException.class, () -> lists.unknown(object, -2));
        }
        SchematicText blanks = Check.holding(0, "(design 1( \n a1\"\\\"(\n\\\\\"@\\(\n))(b)(c(d)(e ())))", 4);
        Check.same("kept with blanks", Check.keptOf(blanks, 1), "( \n a1\"\\\"(\n\\\\\"@\\(\n))");
        Check.same("kept and short", Check.keptOf(blanks, 2), "(b)");
        Check.same("kept and nested", Check.keptOf(blanks, 3), "(c(d)(e ()))");
        SchematicText dots = Check.holding(1, "design 1\n.a\n.b?\n..\n.sheet 1 \"\"\n..c\n.d\n.......e\n", 6);
        Check.same("kept a line", Check.keptOf(dots, 1), "a");
        Check.same("kept with dots", Check.keptOf(dots, 2), "b?\n..");
        Check.same("kept in a sheet", Check.keptOf(dots, 4), "c");
        Check.same("kept behind it", Check.keptOf(dots, 5), "d\n.......e");
    }

    private static void write() {
        SchematicText lists = Check.holding(0, LISTS, 11);
        Check.same("written in form 0", Check.written(lists), LISTS_WRITTEN);
        SchematicText lines = Check.holding(1, LINES, 11);
        Check.same("written in form 1", Check.written(lines), LINES);
        for (SchematicText x : new SchematicText[] {lists, lines}) {
            Check.same("far behind", x.write(Integer.MAX_VALUE), NONE);
            Check.noObject("write(-1)", () -> x.write(-1));
            Check.noObject("write far below", () -> x.write(Integer.MIN_VALUE));
        }
        SchematicText empty = new SchematicText(0);
        Check.fails("write without objects", IllegalStateException.class, () -> empty.write(0));
        Check.noObject("write(-1) without objects", () -> empty.write(-1));
        SchematicText older = Check.holding(0,
            "(design 1(sheet 1 \"\"(symbol 0 0 \"\"(unit 1(pin 1 2 \"\")(note 3 4 \"\")))(note 5 6 \"t\")))", 7);
        Check.same("written in version 3", Check.written(older),
            "(design 3\n (sheet 1 \"\"\n  (symbol 0 0 \"\"\n   (unit 1\n    (pin 1 2 \"\" 0)\n    (note 3 4 \"\" 1.27)))\n"
            + "  (note 5 6 \"t\" 1.27)))\n");
        SchematicText last = Check.holding(0, "(design 3 (sheet 1 \"\" (odd\n)))", 3);
        Check.same("an unknown one at the end", Check.written(last), "(design 3\n (sheet 1 \"\"\n  (odd\n)))\n");
    }

    private static void writeLengths() {
        SchematicText x = new SchematicText(1);
        x.object(NONE, 0);
        x.object(0, 1);
        x.object(1, 7);
        long[] nanometres = {0, 1, -1, 10, 1_000_000, -1_000_000, 1_500_000, 100_000, -100_001, 10_000_000,
            123_456_789, 999_999_999, 1_000_000_000, -1_000_000_000, 100_000_000, 105_000_000};
        String[] due = {"0", "0.000001", "-0.000001", "0.00001", "1", "-1", "1.5", "0.1", "-0.100001", "10",
            "123.456789", "999.999999", "1000", "-1000", "100", "105"};
        for (int i = 0; i < due.length; i++) {
            Check.yes("set", x.set(2, 0, nanometres[i]));
            Check.same("length written", Check.written(x), "design 3\n.sheet 0 \"\"\n..wire " + due[i] + " 0 0 0\n");
        }
        for (int page : new int[] {0, 1, 9, 10, 99, 100, 909, 1000, 9999}) {
            Check.yes("set", x.set(1, 0, page));
            Check.same("page written", Check.written(x), "design 3\n.sheet " + page + " \"\"\n..wire 105 0 0 0\n");
        }
    }

    /** As much as 200 objects can come to: deep ones, and texts that are all escapes. */
    private static void writeMost() {
        SchematicText x = new SchematicText(0);
        StringBuilder due = new StringBuilder("(design 3");
        x.object(NONE, 0);
        for (int k = 1; k < 100; k++) {
            x.object(k - 1, 1);
            due.append("\n").append(" ".repeat(k)).append("(sheet 0 \"\"");
        }
        String full = " \"" + "\\\\".repeat(40) + "\"";
        for (int k = 100; k < 200; k++) {
            x.object(99, 8);
            for (int i = 0; i < 10; i++) {
                Check.yes("eight escapes", x.set(k, -1 - i % 2, 0x5C5C5C5C5C5C5C5CL));
            }
            due.append("\n").append(" ".repeat(100)).append("(field").append(full).append(full).append(")");
        }
        Check.same("the longest page", Check.written(x), due.append(")".repeat(100)).append("\n").toString());
    }

    private static void object() {
        SchematicText x = new SchematicText(0);
        Check.same("no parent for a sheet", x.object(NONE, 1), NONE);
        Check.noObject("a parent that is not", () -> x.object(0, 0));
        Check.same("the design", x.object(NONE, 0), 0);
        Check.same("a second design", x.object(NONE, 0), NONE);
        Check.same("a design in a design", x.object(0, 0), NONE);
        Check.same("sheet", x.object(0, 1), 1);
        Check.same("sheet", x.object(0, 1), 2);
        Check.same("symbol", x.object(1, 2), 3);
        Check.same("sheet", x.object(0, 1), 4);
        Check.same("wire", x.object(1, 7), 5);
        Check.same("unit", x.object(3, 3), 6);
        Check.same("field", x.object(2, 8), 7);
        Check.same("note", x.object(6, 6), 8);
        Check.same("arc", x.object(6, 5), 9);
        Check.same("pin", x.object(6, 4), 10);
        Check.same("behind what is in it", Check.written(x),
            "(design 3\n (sheet 0 \"\"\n  (symbol 0 0 \"\"\n   (unit 1\n    (note 0 0 \"\" 1.27)\n    (arc 0 0 0 0 0)\n"
            + "    (pin 0 0 \"\" 0)))\n  (wire 0 0 0 0))\n (sheet 0 \"\"\n  (field \"\" \"\"))\n (sheet 0 \"\"))\n");
        for (int kind : new int[] {-1, 10, Integer.MIN_VALUE, Integer.MAX_VALUE}) {
            Check.fails("kind " + kind, IllegalArgumentException.class, () -> x.object(0, kind));
            Check.fails("kind " + kind, IllegalArgumentException.class, () -> x.object(NONE, kind));
            Check.noObject("kind " + kind + " in no object", () -> x.object(11, kind));
        }
        for (int parent : new int[] {-2, 11, 200, Integer.MIN_VALUE, Integer.MAX_VALUE}) {
            Check.noObject("parent " + parent, () -> x.object(parent, 1));
        }
        SchematicText read = Check.holding(1, "design 2\n.sheet 1 \"\"\n..odd\n...\n.wild\n", 4);
        Check.same("written before", Check.written(read), "design 3\n.sheet 1 \"\"\n..odd\n...\n.wild\n");
        Check.same("in an object that was read", read.object(1, 6), 4);
        Check.same("in an unknown one", read.object(2, 1), NONE);
        Check.same("written", Check.written(read),
            "design 3\n.sheet 1 \"\"\n..odd\n...\n..note 0 0 \"\" 1.27\n.wild\n");
    }

    private static void objectKinds() {
        boolean[][] may = new boolean[10][10];
        int[][] homes = {{}, {0, 1}, {1}, {2}, {3}, {3}, {3, 1}, {1}, {1, 2}, {}};
        for (int kind = 0; kind < 10; kind++) {
            for (int home : homes[kind]) {
                may[home][kind] = true;
            }
        }
        SchematicText x = Check.holding(0, LISTS, 11);
        int count = 11;
        for (int k = 0; k < 11; k++) {
            for (int kind = 0; kind < 10; kind++) {
                int due = may[KINDS[k]][kind] ? count++ : NONE;
                Check.same("a " + kind + " in a " + KINDS[k], x.object(k, kind), due);
                if (due != NONE) {
                    Check.same("its kind", x.kind(due), kind);
                    Check.same("its parent", x.parent(due), k);
                    Check.same("its first number", NUMBERS[kind] == 0 ? 0 : x.number(due, 0), kind == 3 ? 1 : 0);
                    Check.same("its first text", TEXTS[kind] == 0 ? 0 : x.text(due, 0, NONE), 0);
                }
            }
        }
    }

    private static void objectRoom() {
        for (int form = 0; form <= 1; form++) {
            SchematicText x = new SchematicText(form);
            StringBuilder due = new StringBuilder();
            for (int k = 0; k < 200; k++) {
                Check.same("object " + k, x.object(k - 1, k == 0 ? 0 : 1), k);
                due.append(form == 1 ? ".".repeat(k) : (k == 0 ? "" : "\n") + " ".repeat(k) + "(");
                due.append(k == 0 ? "design 3" : "sheet 0 \"\"").append(form == 1 ? "\n" : "");
            }
            due.append(form == 1 ? "" : ")".repeat(200) + "\n");
            Check.same("the 201st object", x.object(0, 1), NONE);
            Check.same("the 201st in the last", x.object(199, 1), NONE);
            Check.noObject("the 201st", () -> x.kind(200));
            Check.same("depth of 200", x.depth(), 200);
            Check.same("200 written", Check.written(x), due.toString());
        }
    }

    private static void setNumbers() {
        SchematicText x = Check.holding(0, LISTS, 11);
        long far = 1_000_000_000L;
        long[][][] bounds = {{}, {{0, 9999}}, {{-far, far}, {-far, far}}, {{1, 9999}},
            {{-far, far}, {-far, far}, {0, 9}}, {{-far, far}, {-far, far}, {-far, far}, {-360, 360}, {-360, 360}},
            {{-far, far}, {-far, far}, {-far, far}}, {}, {{-far, far}, {-far, far}, {-far, far}, {-far, far}}, {}, {{0, 9999}}};
        for (int k = 0; k < bounds.length; k++) {
            int object = k;
            for (int what = 0; what < bounds[k].length; what++) {
                for (long v : new long[] {bounds[k][what][0], bounds[k][what][1], 5}) {
                    Check.yes("set " + k + " " + what + " " + v, x.set(k, what, v));
                    Check.same("number then", x.number(k, what), v);
                }
                long[] out = {bounds[k][what][0] - 1, bounds[k][what][1] + 1, Long.MIN_VALUE, Long.MAX_VALUE, 1L << 32};
                for (long v : out) {
                    Check.no("set " + k + " " + what + " " + v, x.set(k, what, v));
                    Check.same("number stays", x.number(k, what), 5);
                }
            }
            for (int what : new int[] {bounds[k].length, 5, Integer.MAX_VALUE}) {
                Check.noObject("set number " + what + " of " + k, () -> x.set(object, what, 1) ? 1 : 0);
            }
        }
        for (int k : new int[] {-1, 11, Integer.MIN_VALUE, Integer.MAX_VALUE}) {
            Check.noObject("set of no object", () -> x.set(k, 0, 1) ? 1 : 0);
            Check.noObject("set of no object's text", () -> x.set(k, -1, 65) ? 1 : 0);
        }
    }

    private static void setTexts() {
        SchematicText x = Check.holding(0, LISTS, 11);
        Check.yes("two bytes", x.set(10, -1, 0x4142L));
        Check.yes("bytes with 0 among them", x.set(10, -1, 0x4300440000450046L));
        Check.same("they come to the text", Check.textOf(x, 10, 0), "ABCDEF");
        for (long v : new long[] {0x1FL, 0x7FL, 0x0AL, 0x80L, 0xFFL, 0x411F42L, 0x8041414141414141L, -1L, Long.MIN_VALUE}) {
            Check.no("set text " + Long.toHexString(v), x.set(10, -1, v));
        }
        Check.same("nothing changed", Check.textOf(x, 10, 0), "ABCDEF");
        for (int i = 0; i < 4; i++) {
            Check.yes("eight bytes", x.set(10, -1, 0x207E225C61626364L));
        }
        Check.no("three bytes at 38", x.set(10, -1, 0x414243L));
        Check.yes("two bytes at 38", x.set(10, -1, 0x205AL));
        Check.no("one byte at 40", x.set(10, -1, 0x41L));
        Check.same("40 characters", Check.textOf(x, 10, 0), "ABCDEF" + " ~\"\\abcd".repeat(4) + " Z");
        Check.same("escapes written", Check.written(x).substring(LISTS_WRITTEN.length() - 5),
            "\"ABCDEF" + " ~\\\"\\\\abcd".repeat(4) + " Z\"))\n");
        Check.yes("emptied", x.set(10, -1, 0));
        Check.same("empty", x.text(10, 0, NONE), 0);
        Check.same("empty written", Check.written(x), LISTS_WRITTEN);
        Check.yes("the second text", x.set(7, -2, 0x77L));
        Check.same("the first stays", Check.textOf(x, 7, 0), "f");
        Check.same("the second grew", Check.textOf(x, 7, 1), "vw");
        Check.yes("the first text", x.set(7, -1, 0x67L));
        Check.same("the first grew", Check.textOf(x, 7, 0), "fg");
        for (int k = 0; k < KINDS.length; k++) {
            int object = k;
            for (int what : new int[] {-1 - TEXTS[KINDS[k]], -3, Integer.MIN_VALUE, Integer.MIN_VALUE + 1}) {
                Check.noObject("set text " + what + " of " + k, () -> x.set(object, what, 65) ? 1 : 0);
            }
        }
    }

    private static void depth() {
        Check.same("depth of form 0", Check.holding(0, LISTS, 11).depth(), 5);
        Check.same("depth of form 1", Check.holding(1, LINES, 11).depth(), 5);
        Check.same("an unknown one counts once", Check.holding(0, "(design 1 (odd (a (b (c)))))", 2).depth(), 2);
        SchematicText x = new SchematicText(0);
        int[] parents = {NONE, 0, 0, 1, 2, 3, 5, 5};
        int[] kinds = {0, 1, 1, 1, 7, 2, 3, 8};
        int[] due = {1, 2, 2, 3, 3, 4, 5, 5};
        for (int k = 0; k < due.length; k++) {
            Check.same("object " + k, x.object(parents[k], kinds[k]), k);
            Check.same("depth with " + k, x.depth(), due[k]);
        }
        Check.feed(x, "(design 1)");
        Check.same("read", x.read(), 1);
        Check.same("depth of a read", x.depth(), 1);
    }

    private static void clear() {
        SchematicText x = Check.holding(0, LISTS, 11);
        x.clear();
        Check.same("objects stay", Check.written(x), LISTS_WRITTEN);
        Check.same("no text", x.read(), -1);
        x.clear();
        Check.feed(x, "(design 2)");
        Check.same("another text", x.read(), 1);
        Check.same("its version", x.version(), 2);
    }
}
