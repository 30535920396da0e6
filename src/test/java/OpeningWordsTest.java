import java.io.IOException;

/** The document's opening, words after words: each is followed by the checks that would fail if it were broken. */
public final class OpeningWordsTest {
    private static final int NONE = SchematicText.NONE;
    private static final int CALLS = 512;
    private static final String LISTS = "(design 1(sheet 7 \"a\\\"b\\\\\"(symbol -1.5 0.000001 \"U1\"(unit 2(pin 0 1 \"p\")(note 1 2 \"n\")))"
        + "(odd  \"(\" (x)))(sheet 8 \"\"))";
    private static final String LINES = "design 1\n.sheet 7 \"a\\\"b\\\\\"\n..symbol -1.5 0.000001 \"U1\"\n...unit 2\n....pin 0 1 \"p\"\n"
        + "....note 1 2 \"n\"\n..odd  \"(\" (x)\n.sheet 8 \"\"\n";
    private static final int OBJECTS = 8;

    public static void main(String[] args) throws IOException {
        Check.open("Schematics as trees", "## The public face");
        trees();
        lengths();
        texts();
        versions();
        unknowns();
        faults();
        calls();
        Check.close();
        Check.end();
    }

    private static void trees() {
        Check.words("Schematics as trees of objects");
        int[] kinds = {0, 1, 2, 3, 4, 6, 9, 1};
        int[] parents = {NONE, 0, 1, 2, 3, 3, 1, 0};
        for (int form = 0; form <= 1; form++) {
            SchematicText x = Check.holding(form, form == 0 ? LISTS : LINES, OBJECTS);
            for (int k = 0; k < OBJECTS; k++) {
                Check.same("kind of " + k, x.kind(k), kinds[k]);
                Check.same("parent of " + k, x.parent(k), parents[k]);
            }
        }
        Check.words("read from a text of nested lists");
        Check.reads(0, LISTS, OBJECTS);
        Check.fault(0, "|" + LINES);
        Check.words("or of lines");
        Check.reads(1, LINES, OBJECTS);
        Check.fault(1, "|" + LISTS);
        Check.words("and written:");
        Texts texts = new Texts(512);
        for (int round = 0; round < 2_000; round++) {
            int form = round % 2;
            SchematicText x = Check.fed(form, texts.whole(form));
            int objects = x.read();
            String page = Check.written(x);
            SchematicText again = Check.holding(form, page, objects);
            Check.same("what is written, read and written again", Check.written(again), page);
        }
    }

    private static void lengths() {
        Check.words("exact lengths");
        SchematicText x = Sample.holding(1, 7);
        long step = 7_654_321;
        for (long v = -1_000_000_000; v <= 1_000_000_000; v += step) {
            Check.yes("set of " + v, x.set(2, 1, v));
            Check.same("what was set", x.number(2, 1), v);
            SchematicText again = Check.holding(1, Check.written(x), 3);
            Check.same("what was written and read", again.number(2, 1), v);
        }
    }

    private static void texts() {
        Check.words("quoted texts with escapes");
        SchematicText x = Check.holding(0, LISTS, OBJECTS);
        Check.same("escapes that were read", Check.textOf(x, 1, 0), "a\"b\\");
        Check.yes("escapes that are written", Check.written(x).startsWith("(design 3\n (sheet 7 \"a\\\"b\\\\\"\n"));
    }

    private static void versions() {
        Check.words("versions that widen");
        for (int form = 0; form <= 1; form++) {
            SchematicText x = Check.holding(form, form == 0 ? LISTS : LINES, OBJECTS);
            SchematicText wide = Check.holding(form, Check.written(x), OBJECTS);
            Check.same("the version of what is read", x.version(), 1);
            Check.same("the version of what is written", wide.version(), 3);
            Check.same("a PIN's kind", wide.number(4, 2), 0);
            Check.same("a NOTE's size", wide.number(5, 2), 1_270_000);
        }
    }

    private static void unknowns() {
        Check.words("unknown objects kept as they stand");
        for (int form = 0; form <= 1; form++) {
            SchematicText x = Check.holding(form, form == 0 ? LISTS : LINES, OBJECTS);
            String due = form == 0 ? "(odd  \"(\" (x))" : "odd  \"(\" (x)";
            Check.same("what is kept", Check.keptOf(x, 6), due);
            Check.yes("what is kept is written", Check.written(x).contains((form == 0 ? "\n  " : "\n..") + due));
        }
    }

    private static void faults() {
        Check.words("the place of the first fault.");
        Check.fault(0, "(design 1(sheet |x \"\"(sheet y \"\"))");
        Check.fault(0, "(design |9(sheet x))");
        Check.fault(1, "design 1\n.sheet |x \"\"\n..sheet y \"\"\n");
        Check.fault(1, "design 1\n.|wire 0\n......pin\n");
    }

    private static void calls() {
        Check.words("An object is used for at most 512 calls after it has been made; what later calls answer is free.");
        SchematicText longest = Check.fed(0, "(design 1(a" + "x".repeat(497) + "))");
        Check.same("call 511", longest.read(), 2);
        Check.same("call 512", longest.unknown(1, NONE), 500);
        SchematicText often = Check.fed(0, LISTS);
        for (int call = LISTS.length() + 1; call <= CALLS; call++) {
            Check.same("read as call " + call, often.read(), OBJECTS);
        }
        SchematicText made = new SchematicText(1);
        for (int call = 1; call <= 200; call++) {
            Check.same("object as call " + call, made.object(call - 2, call == 1 ? 0 : 1), call - 1);
        }
        // A write behind each change: what is written has to be made anew every time.
        for (int call = 201; call <= CALLS; call += 2) {
            Check.yes("set as call " + call, made.set(199, 0, call));
            Check.same("write as call " + (call + 1), made.write(0), 'd');
        }
    }
}
