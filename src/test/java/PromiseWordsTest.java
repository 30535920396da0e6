import java.io.IOException;

/** The document's promises, words after words: each is followed by the checks that would fail if it were broken. */
public final class PromiseWordsTest {
    private static final int NONE = SchematicText.NONE;
    private static final int LOW = Integer.MIN_VALUE;
    private static final int HIGH = Integer.MAX_VALUE;
    private static final String SMALL = "(design 2(sheet 7 \"ab\"(wire 1 2 3 4)(odd (x)))(sheet 8 \"\"))";
    private static final String SMALL_WRITTEN = "(design 3\n (sheet 7 \"ab\"\n  (wire 1 2 3 4)\n  (odd (x)))\n (sheet 8 \"\"))\n";

    public static void main(String[] args) throws IOException {
        Check.open("## Promise 1:", "## Not promised");
        newObject();
        unit();
        read();
        kindAndParent();
        number();
        text();
        version();
        unknown();
        write();
        object();
        objectRefused();
        setNumber();
        setText();
        setRefused();
        depthAndClear();
        Check.close();
        Check.end();
    }

    private static SchematicText small() {
        return Check.holding(0, SMALL, 5);
    }

    private static void newObject() {
        Check.words("No text");
        Check.same("a new object's read in form 0", new SchematicText(0).read(), -1);
        Check.same("a new object's read in form 1", new SchematicText(1).read(), -1);
        Check.words("no objects.");
        for (int form = 0; form <= 1; form++) {
            SchematicText x = new SchematicText(form);
            Check.same("depth", x.depth(), 0);
            Check.noObject("kind(0)", () -> x.kind(0));
            Check.fails("write(0)", IllegalStateException.class, () -> x.write(0));
        }
        Check.words("A form below 0 is 0");
        for (int form : new int[] {-1, -2, LOW, 0}) {
            Check.same("written", Check.written(Check.holding(form, "(design 1)", 1)), "(design 3)\n");
        }
        Check.words("one above 1 is 1.");
        for (int form : new int[] {1, 2, 3, HIGH}) {
            Check.same("written", Check.written(Check.holding(form, "design 1\n", 1)), "design 3\n");
        }
    }

    private static void unit() {
        Check.words("One more character of the text.");
        SchematicText x = Check.fed(0, "(design 1");
        Check.same("read without the last one", x.read(), -10);
        Check.yes("unit", x.unit(')'));
        Check.same("read with it", x.read(), 1);
        Check.words("False, refused, when it is none");
        for (int u : new int[] {-1, 0, 9, 11, 31, 127, 255, 256 + '(', 65536 + '(', LOW, HIGH}) {
            Check.no("unit(" + u + ")", x.unit(u));
        }
        for (int u : new int[] {10, 32}) {
            Check.yes("unit(" + u + ")", x.unit(u));
        }
        Check.same("nothing that was refused is in the text", x.read(), 1);
        Check.yes("unit(126)", x.unit(126));
        Check.same("a character that is in the text", x.read(), -13);
        Check.words("or there are 4,000.");
        x.clear();
        for (int i = 0; i < 4000; i++) {
            Check.yes("unit " + i, x.unit(' '));
        }
        Check.no("unit 4,000", x.unit(' '));
        Check.no("unit 4,001", x.unit('x'));
        Check.same("the text has 4,000", x.read(), -4001);
    }

    private static void read() {
        Check.words("Reads the text: its objects, in their order in the text");
        SchematicText x = small();
        int[] kinds = {0, 1, 7, 9, 1};
        for (int k = 0; k < kinds.length; k++) {
            Check.same("kind of " + k, x.kind(k), kinds[k]);
        }
        Check.words("take the place of all that were");
        SchematicText other = new SchematicText(0);
        for (int k = 0; k < 9; k++) {
            Check.same("object", other.object(k - 1, k == 0 ? 0 : 1), k);
        }
        other.set(1, -1, 'x');
        Check.feed(other, SMALL);
        Check.same("read", other.read(), 5);
        Check.same("written", Check.written(other), SMALL_WRITTEN);
        Check.same("depth", other.depth(), 3);
        Check.noObject("the others are gone", () -> other.kind(5));
        other.clear();
        Check.feed(other, "(design 1(sheet 1 \"\"))");
        for (int again = 0; again < 3; again++) {
            Check.same("another read", other.read(), 2);
            Check.same("its depth", other.depth(), 2);
            Check.same("written", Check.written(other), "(design 3\n (sheet 1 \"\"))\n");
        }
        Check.words("how many.");
        Check.reads(0, "(design 1)", 1);
        Check.reads(0, "(design 1(a (b)))", 2);
        Check.reads(1, "design 1\n.a\n..b\n", 2);
        Check.same("the same text again", x.read(), 5);
        Check.words("With a FAULT -1 minus its place");
        Check.same("a fault at 0", Check.fed(0, ")").read(), -1);
        Check.same("a fault at 1", Check.fed(0, "()").read(), -2);
        Check.same("a fault at the length", Check.fed(1, "design 1").read(), -9);
        Check.words("and all stays.");
        Check.feed(x, "?");
        Check.same("read with a fault", x.read(), -1 - SMALL.length());
        staysSmall(x);
        x.clear();
        Check.feed(x, "(design 1(sheet 5 \"x\"(b))(odder)(sheet 5 \"y\"(wire 0 0 0 ?))");
        Check.yes("another fault", x.read() < 0);
        staysSmall(x);
        SchematicText empty = Check.fed(0, "(design 1(sheet 1 \"\")");
        Check.yes("a fault in the first read", empty.read() < 0);
        Check.same("no objects", empty.depth(), 0);
        Check.same("the text stays, too: one more ) ends it", empty.unit(')') ? empty.read() : 0, 2);
    }

    private static void staysSmall(SchematicText x) {
        Check.same("written stays", Check.written(x), SMALL_WRITTEN);
        Check.same("version stays", x.version(), 2);
        Check.same("depth stays", x.depth(), 3);
        Check.same("an UNKNOWN stays", Check.keptOf(x, 3), "(odd (x))");
        Check.same("a name stays", Check.textOf(x, 1, 0), "ab");
        Check.noObject("no other objects", () -> x.kind(5));
    }

    private static void kindAndParent() {
        Check.words("An object's kind.");
        SchematicText x = small();
        int[] kinds = {0, 1, 7, 9, 1};
        int[] parents = {NONE, 0, 1, 1, 0};
        for (int k = 0; k < kinds.length; k++) {
            Check.same("kind of " + k, x.kind(k), kinds[k]);
        }
        Check.words("IndexOutOfBoundsException, when there is none such.");
        for (int k : new int[] {-1, 5, 199, 200, LOW, HIGH}) {
            Check.noObject("kind of " + k, () -> x.kind(k));
        }
        Check.words("An object's parent");
        for (int k = 1; k < parents.length; k++) {
            Check.same("parent of " + k, x.parent(k), parents[k]);
        }
        Check.words("NONE for the DESIGN.");
        Check.same("parent of 0", x.parent(0), NONE);
        SchematicText made = new SchematicText(1);
        made.object(NONE, 0);
        Check.same("parent of a DESIGN that was made", made.parent(0), NONE);
        Check.words("IndexOutOfBoundsException likewise.");
        for (int k : new int[] {-1, 5, 199, 200, LOW, HIGH}) {
            Check.noObject("parent of " + k, () -> x.parent(k));
        }
        Check.noObject("parent without objects", () -> new SchematicText(0).parent(0));
    }

    private static void number() {
        Check.words("The what-th (from 0) of an object's fields N and W.");
        SchematicText pin = Sample.holding(0, 4);
        Check.same("a PIN's x", pin.number(4, 0), 1_000_000);
        Check.same("a PIN's y", pin.number(4, 1), 2_000_000);
        Check.same("a PIN's kind, behind its name", pin.number(4, 2), 3);
        Check.words("IndexOutOfBoundsException, when there is no such object");
        for (int k : new int[] {-1, 5, 200, LOW, HIGH}) {
            Check.noObject("number of " + k, () -> pin.number(k, 0));
        }
        Check.words("or field.");
        int[] numbers = {0, 1, 2, 1, 3, 5, 3, 4, 0, 0};
        for (int kind = 0; kind < 10; kind++) {
            SchematicText x = Sample.holding(1, kind);
            int k = Sample.depthOf(kind);
            for (int what : new int[] {-1, -2, numbers[kind], 5, LOW, HIGH}) {
                Check.noObject("number " + what + " of kind " + kind, () -> x.number(k, what));
            }
        }
    }

    private static void text() {
        Check.words("The i-th character (from 0) of the what-th of an object's fields T");
        SchematicText x = Check.holding(0, "(design 1(sheet 1 \"p\\\"q\"(field \"ab\" \"c\\\\\")(field \"\" \"\")))", 4);
        Check.same("the first character", x.text(1, 0, 0), 'p');
        Check.same("an escape", x.text(1, 0, 1), '"');
        Check.same("the last character", x.text(1, 0, 2), 'q');
        Check.same("of the first text", x.text(2, 0, 1), 'b');
        Check.same("of the second text", x.text(2, 1, 1), '\\');
        Check.words("i NONE: how many there are.");
        Check.same("three", x.text(1, 0, NONE), 3);
        Check.same("two", x.text(2, 1, NONE), 2);
        Check.same("none", x.text(3, 0, NONE), 0);
        Check.words("IndexOutOfBoundsException, when there is no such object");
        for (int k : new int[] {-1, 4, 200, LOW, HIGH}) {
            Check.noObject("text of " + k, () -> x.text(k, 0, NONE));
        }
        Check.words("field");
        int[] texts = {0, 1, 1, 0, 1, 0, 1, 0, 2, 0};
        for (int kind = 0; kind < 10; kind++) {
            SchematicText one = Sample.holding(1, kind);
            int k = Sample.depthOf(kind);
            for (int what : new int[] {-1, -2, texts[kind], 2, LOW, HIGH}) {
                Check.noObject("text " + what + " of kind " + kind, () -> one.text(k, what, NONE));
            }
        }
        Check.words("or character.");
        for (int i : new int[] {-2, 3, 39, 40, LOW, HIGH}) {
            Check.noObject("character " + i, () -> x.text(1, 0, i));
        }
        Check.noObject("the first of none", () -> x.text(3, 0, 0));
    }

    private static void version() {
        Check.words("The VERSION of the text that was read latest without a fault");
        SchematicText x = new SchematicText(0);
        for (int version : new int[] {2, 1, 3}) {
            x.clear();
            Check.feed(x, "(design " + version + ")");
            Check.same("read", x.read(), 1);
            Check.same("version", x.version(), version);
        }
        x.clear();
        Check.feed(x, "(design 1");
        Check.same("read with a fault", x.read(), -10);
        Check.same("version behind a fault", x.version(), 3);
        Check.feed(x, ")");
        Check.same("version ahead of a read", x.version(), 3);
        Check.same("read", x.read(), 1);
        Check.same("version behind it", x.version(), 1);
        x.object(0, 1);
        x.write(0);
        Check.same("version behind write", x.version(), 1);
        Check.words("0 before.");
        SchematicText made = new SchematicText(1);
        Check.same("a new object's version", made.version(), 0);
        made.object(NONE, 0);
        Check.same("version of objects that were made", made.version(), 0);
        Check.feed(made, "design 3");
        Check.same("read with a fault", made.read(), -9);
        Check.same("version behind a fault", made.version(), 0);
    }

    private static void unknown() {
        Check.words("The i-th character that is kept for an UNKNOWN");
        SchematicText lists = Check.holding(0, "(design 1(a \"\\\"\")( b))", 3);
        Check.same("the first", lists.unknown(1, 0), '(');
        Check.same("an escape is two", lists.unknown(1, 4), '\\');
        Check.same("the last", lists.unknown(1, 7), ')');
        Check.same("the first of the next one", lists.unknown(2, 0), '(');
        Check.same("a blank", lists.unknown(2, 1), ' ');
        SchematicText lines = Check.holding(1, "design 1\n.ab\n..c\n", 2);
        Check.same("the first in form 1", lines.unknown(1, 0), 'a');
        Check.same("a line feed", lines.unknown(1, 2), 10);
        Check.same("the last in form 1", lines.unknown(1, 5), 'c');
        Check.words("i NONE: how many.");
        Check.same("eight", lists.unknown(1, NONE), 8);
        Check.same("four", lists.unknown(2, NONE), 4);
        Check.same("six", lines.unknown(1, NONE), 6);
        Check.words("IndexOutOfBoundsException, when there is no such object");
        for (int k : new int[] {-1, 3, 200, LOW, HIGH}) {
            Check.noObject("unknown of " + k, () -> lists.unknown(k, NONE));
            Check.noObject("unknown of " + k, () -> lists.unknown(k, 0));
        }
        Check.words("IllegalStateException, when it is another kind");
        for (int kind = 0; kind < 9; kind++) {
            SchematicText x = Sample.holding(0, kind);
            int k = Sample.depthOf(kind);
            for (int i : new int[] {NONE, 0, -2, LOW, HIGH}) {
                Check.fails("unknown of kind " + kind, IllegalStateException.class, () -> x.unknown(k, i));
            }
        }
        Check.words("else IndexOutOfBoundsException, when there is no such character.");
        for (int i : new int[] {-2, 8, 1999, 2000, LOW, HIGH}) {
            Check.noObject("unknown's character " + i, () -> lists.unknown(1, i));
        }
        Check.noObject("behind the last in form 1", () -> lines.unknown(1, 6));
    }

    private static void write() {
        Check.words("The i-th character of what is WRITTEN");
        SchematicText x = small();
        for (int i = 0; i < SMALL_WRITTEN.length(); i++) {
            Check.same("character " + i, x.write(i), SMALL_WRITTEN.charAt(i));
        }
        Check.yes("set", x.set(1, 0, 12));
        Check.same("a change is written", Check.written(x), SMALL_WRITTEN.replace("7", "12"));
        Check.yes("set", x.set(4, -1, 'z'));
        Check.same("a text is written", Check.written(x), SMALL_WRITTEN.replace("7", "12").replace("8 \"", "8 \"z"));
        Check.same("object", x.object(0, 1), 5);
        Check.yes("an object is written", Check.written(x).endsWith("\n (sheet 8 \"z\")\n (sheet 0 \"\"))\n"));
        Check.same("read", x.read(), 5);
        Check.same("a read is written", Check.written(x), SMALL_WRITTEN);
        Check.words("NONE behind the last one.");
        for (int i : new int[] {SMALL_WRITTEN.length(), SMALL_WRITTEN.length() + 1, 1_000_000, HIGH}) {
            Check.same("character " + i, x.write(i), NONE);
        }
        Check.words("IndexOutOfBoundsException, when i is below 0");
        for (int i : new int[] {-1, -2, LOW}) {
            Check.noObject("write(" + i + ")", () -> x.write(i));
        }
        Check.words("IllegalStateException, when there are no objects.");
        SchematicText empty = Check.fed(0, "(design 1)");
        for (int i : new int[] {0, 1, HIGH}) {
            Check.fails("write(" + i + ")", IllegalStateException.class, () -> empty.write(i));
            Check.fails("write(" + i + ")", IllegalStateException.class, () -> new SchematicText(1).write(i));
        }
    }

    private static void object() {
        Check.words("A new object in another one, behind what is in it");
        SchematicText x = small();
        Check.same("a SHEET in 0", x.object(0, 1), 5);
        Check.same("a FIELD in 1", x.object(1, 8), 6);
        Check.same("a NOTE in 4", x.object(4, 6), 7);
        Check.same("a WIRE in 1", x.object(1, 7), 8);
        Check.same("the FIELD's parent", x.parent(6), 1);
        Check.same("the NOTE's kind", x.kind(7), 6);
        Check.same("written", Check.written(x), "(design 3\n (sheet 7 \"ab\"\n  (wire 1 2 3 4)\n  (odd (x))\n  (field \"\" \"\")\n"
            + "  (wire 0 0 0 0))\n (sheet 8 \"\"\n  (note 0 0 \"\" 1.27))\n (sheet 0 \"\"))\n");
        Check.words("(a DESIGN: in NONE, when there are no objects):");
        SchematicText made = new SchematicText(0);
        Check.same("a SHEET in NONE", made.object(NONE, 1), NONE);
        Check.noObject("a DESIGN in 0", () -> made.object(0, 0));
        Check.same("a DESIGN in NONE", made.object(NONE, 0), 0);
        Check.same("a second one", made.object(NONE, 0), NONE);
        Check.same("one behind a read", x.object(NONE, 0), NONE);
        Check.words("its number");
        for (int k = 1; k < 5; k++) {
            Check.same("the next number", made.object(0, 1), k);
        }
        Check.same("none goes to a refused one", made.object(0, 7), NONE);
        Check.same("the next number", made.object(1, 7), 5);
        Check.words("NONE when there are 200");
        SchematicText full = new SchematicText(1);
        full.object(NONE, 0);
        for (int k = 1; k < 200; k++) {
            Check.same("object " + k, full.object(k - 1, 1), k);
        }
        Check.same("one more in the first", full.object(0, 1), NONE);
        Check.same("one more in the last", full.object(199, 2), NONE);
        Check.noObject("kind of the 201st", () -> full.kind(200));
        Check.same("the depth stays", full.depth(), 200);
        String last = "\n" + ".".repeat(199) + "sheet 0 \"\"\n";
        Check.yes("the last is written as it was", Check.written(full).endsWith(last));
    }

    private static void objectRefused() {
        Check.words("or there can't be such a one there");
        String[] homes = {"", "01", "1", "2", "3", "3", "13", "1", "12", ""};
        for (int parent = 0; parent < 10; parent++) {
            for (int kind = 0; kind < 10; kind++) {
                SchematicText x = Sample.holding(0, parent);
                int k = Sample.depthOf(parent);
                int due = homes[kind].indexOf('0' + parent) < 0 ? NONE : k + 1;
                Check.same("a " + kind + " in a " + parent, x.object(k, kind), due);
            }
        }
        for (int kind = 1; kind < 10; kind++) {
            Check.same("a " + kind + " in NONE", new SchematicText(0).object(NONE, kind), NONE);
            Check.same("a " + kind + " in NONE", small().object(NONE, kind), NONE);
        }
        Check.words("(also an UNKNOWN).");
        SchematicText x = small();
        for (int parent = NONE; parent < 5; parent++) {
            Check.same("an UNKNOWN in " + parent, x.object(parent, 9), NONE);
        }
        Check.noObject("no object was made", () -> x.kind(5));
        Check.words("IndexOutOfBoundsException, when parent is no object, nor NONE");
        for (int parent : new int[] {-2, 5, 200, LOW, HIGH}) {
            Check.noObject("parent " + parent, () -> x.object(parent, 1));
            Check.noObject("parent " + parent, () -> x.object(parent, 9));
            Check.noObject("parent " + parent, () -> x.object(parent, 0));
        }
        Check.words("IllegalArgumentException, when kind is not 0 .. 9.");
        for (int kind : new int[] {-1, 10, LOW, HIGH}) {
            for (int parent : new int[] {NONE, 0, 2, 4}) {
                Check.fails("kind " + kind, IllegalArgumentException.class, () -> x.object(parent, kind));
            }
            Check.fails("kind " + kind, IllegalArgumentException.class, () -> new SchematicText(0).object(NONE, kind));
        }
    }

    private static void setNumber() {
        Check.words("The what-th of the fields N and W becomes v");
        SchematicText x = Sample.holding(0, 4);
        Check.yes("set x", x.set(4, 0, -5));
        Check.yes("set y", x.set(4, 1, 1_000_000_000));
        Check.yes("set kind", x.set(4, 2, 9));
        Check.same("x", x.number(4, 0), -5);
        Check.same("y", x.number(4, 1), 1_000_000_000);
        Check.same("kind", x.number(4, 2), 9);
        Check.same("the UNIT's number stays", x.number(3, 0), 7);
        Check.same("its name stays", Check.textOf(x, 4, 0), "a");
        Check.yes("set of a number to 0", x.set(4, 0, 0));
        Check.same("x", x.number(4, 0), 0);
    }

    private static void setText() {
        Check.words("or (what -1 for the first T, -2 for the second)");
        SchematicText x = Sample.holding(0, 8);
        Check.yes("set the first", x.set(2, -1, 'x'));
        Check.yes("set the second", x.set(2, -2, 'y'));
        Check.same("the first", Check.textOf(x, 2, 0), "ax");
        Check.same("the second", Check.textOf(x, 2, 1), "by");
        Check.words("the eight bytes of v, the highest first");
        SchematicText sheet = Sample.holding(0, 1, "sheet 1 \"\"");
        Check.yes("set", sheet.set(1, -1, 0x4142434445464748L));
        Check.same("eight", Check.textOf(sheet, 1, 0), "ABCDEFGH");
        Check.words("those that are 0 being left out");
        Check.yes("set", sheet.set(1, -1, 0x4900004A00000000L));
        Check.yes("set", sheet.set(1, -1, 0x004B00004C00004DL));
        Check.words("come to a text");
        Check.same("behind what is there", Check.textOf(sheet, 1, 0), "ABCDEFGHIJKLM");
        Check.words("(with 0 it becomes empty).");
        Check.yes("set with 0", sheet.set(1, -1, 0));
        Check.same("empty", sheet.text(1, 0, NONE), 0);
        Check.yes("set with 0 again", sheet.set(1, -1, 0));
        Check.same("empty still", sheet.text(1, 0, NONE), 0);
        Check.yes("set the second with 0", x.set(2, -2, 0));
        Check.same("the first stays", Check.textOf(x, 2, 0), "ax");
        Check.same("the second is empty", x.text(2, 1, NONE), 0);
    }

    private static void setRefused() {
        Check.words("False, changing nothing, when v is out of its bounds");
        int[] kinds = {1, 2, 3, 4, 4, 5, 5, 6, 7};
        int[] whats = {0, 1, 0, 2, 0, 3, 4, 2, 3};
        long far = 1_000_000_000L;
        long[] lowest = {0, -far, 1, 0, -far, -360, -360, -far, -far};
        long[] highest = {9999, far, 9999, 9, far, 360, 360, far, far};
        for (int i = 0; i < kinds.length; i++) {
            SchematicText x = Sample.holding(1, kinds[i]);
            int k = Sample.depthOf(kinds[i]);
            String before = Check.written(x);
            // The sums with 2^32 and 2^40 would be within the bounds if they were cut to an int.
            for (long v : new long[] {lowest[i] - 1, highest[i] + 1, (1L << 32) + 1, (1L << 40) + 1, -(1L << 32) + 1,
                Long.MIN_VALUE, Long.MAX_VALUE}) {
                Check.no("set " + whats[i] + " of kind " + kinds[i] + " to " + v, x.set(k, whats[i], v));
            }
            Check.same("nothing changed", Check.written(x), before);
            Check.yes("set to the lowest", x.set(k, whats[i], lowest[i]));
            Check.same("the lowest", x.number(k, whats[i]), lowest[i]);
            Check.yes("set to the highest", x.set(k, whats[i], highest[i]));
            Check.same("the highest", x.number(k, whats[i]), highest[i]);
        }
        Check.words("or a byte is no character");
        SchematicText sheet = Sample.holding(0, 1);
        for (long v : new long[] {1, 10, 31, 127, 128, 255, 0x411FL, 0x417F42L, 0x7F41414141414141L, 0x1F00000000000000L,
            0x8041414141414141L, -1, Long.MIN_VALUE}) {
            Check.no("set text to " + Long.toHexString(v), sheet.set(1, -1, v));
        }
        Check.same("nothing changed", Check.textOf(sheet, 1, 0), "a");
        Check.yes("32 and 126", sheet.set(1, -1, 0x207EL));
        Check.same("32 and 126", Check.textOf(sheet, 1, 0), "a ~");
        Check.words("or the text would be too long.");
        SchematicText full = Sample.holding(0, 1, "sheet 1 \"" + "x".repeat(38) + "\"");
        Check.no("three more", full.set(1, -1, 0x414243L));
        Check.no("eight more", full.set(1, -1, 0x4141414141414141L));
        Check.same("nothing changed", full.text(1, 0, NONE), 38);
        Check.yes("two more", full.set(1, -1, 0x4100000000000042L));
        Check.no("one more", full.set(1, -1, 0x41L));
        Check.same("40", Check.textOf(full, 1, 0), "x".repeat(38) + "AB");
        Check.yes("0 at 40", full.set(1, -1, 0));
        Check.same("empty", full.text(1, 0, NONE), 0);
        Check.words("IndexOutOfBoundsException, when there is no such object");
        for (int k : new int[] {-1, 2, 200, LOW, HIGH}) {
            Check.noObject("set of " + k, () -> full.set(k, 0, 1) ? 1 : 0);
            Check.noObject("set of " + k, () -> full.set(k, -1, 65) ? 1 : 0);
        }
        Check.words("or field.");
        int[] numbers = {0, 1, 2, 1, 3, 5, 3, 4, 0, 0};
        int[] texts = {0, 1, 1, 0, 1, 0, 1, 0, 2, 0};
        for (int kind = 0; kind < 10; kind++) {
            SchematicText x = Sample.holding(0, kind);
            int k = Sample.depthOf(kind);
            for (int what : new int[] {numbers[kind], 5, HIGH, -1 - texts[kind], -3, LOW, LOW + 1}) {
                for (long v : new long[] {0, 1, 65, Long.MAX_VALUE}) {
                    Check.noObject("set " + what + " of kind " + kind, () -> x.set(k, what, v) ? 1 : 0);
                }
            }
        }
    }

    private static void depthAndClear() {
        Check.words("How many objects lie in one another at most (the DESIGN, one in it, and so on)");
        SchematicText x = new SchematicText(0);
        int[] parents = {NONE, 0, 0, 1, 3, 0, 2};
        int[] due = {1, 2, 2, 3, 4, 4, 4};
        for (int k = 0; k < due.length; k++) {
            Check.same("object", x.object(parents[k], k == 0 ? 0 : 1), k);
            Check.same("depth with " + k, x.depth(), due[k]);
        }
        Check.same("depth of a text", small().depth(), 3);
        Check.same("an UNKNOWN is one object", Check.holding(0, "(design 1(a(b(c(d)))))", 2).depth(), 2);
        Check.same("an UNKNOWN of lines is one object", Check.holding(1, "design 1\n.a\n..b\n...c\n", 2).depth(), 2);
        Check.same("the deepest is not the last",
            Check.holding(1, "design 1\n.sheet 1 \"\"\n..sheet 1 \"\"\n.sheet 1 \"\"\n", 4).depth(), 3);
        Check.words("0 without any.");
        Check.same("depth without objects", new SchematicText(0).depth(), 0);
        Check.same("depth with a text alone", Check.fed(0, "(design 1)").depth(), 0);

        Check.words("There is no text.");
        SchematicText cleared = small();
        cleared.clear();
        Check.same("read behind clear", cleared.read(), -1);
        Check.feed(cleared, "(design 1)");
        Check.same("read of a new text", cleared.read(), 1);
        cleared.clear();
        cleared.clear();
        Check.same("read behind clear twice", cleared.read(), -1);
        SchematicText shorter = Check.holding(1, "design 1\n.odd\n...............\n", 2);
        shorter.clear();
        Check.feed(shorter, "design 1\n.odd\n");
        Check.same("read of a shorter text", shorter.read(), 2);
        Check.same("nothing of the longer one is kept", Check.keptOf(shorter, 1), "odd");
        Check.words("(Objects stay.)");
        SchematicText kept = small();
        kept.clear();
        staysSmall(kept);
        Check.same("a read of no text changes nothing", kept.read(), -1);
        staysSmall(kept);
    }
}
