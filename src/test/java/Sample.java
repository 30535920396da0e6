/** Small texts of both forms that hold one object of a kind, in a parent that it may be in. */
final class Sample {
    static final String[] NAMES = {"design", "sheet", "symbol", "unit", "pin", "arc", "note", "wire", "field", "odd"};
    /** VALUES in version 3, all of them different. */
    static final String[] VALUES = {"3", "7 \"a\"", "1 2 \"a\"", "7", "1 2 \"a\" 3", "1 2 3 4 5", "1 2 \"a\" 3", "1 2 3 4",
        "\"a\" \"b\"", "any"};
    /** For each kind one that it may be in; a NOTE is in a UNIT here. */
    static final int[] ABOVE = {-1, 0, 1, 2, 3, 3, 3, 1, 1, 0};

    private Sample() {
    }

    /** How many objects lie around one of the kind, which is its number, too. */
    static int depthOf(int kind) {
        int deep = 0;
        for (int k = ABOVE[kind]; k >= 0; k = ABOVE[k]) {
            deep++;
        }
        return deep;
    }

    static String whole(int kind) {
        return NAMES[kind] + " " + VALUES[kind];
    }

    /** The kind's NAME and VALUES with another one in a VALUE's place. */
    static String with(int kind, int spot, String value) {
        String[] values = VALUES[kind].split(" ");
        values[spot] = value;
        return NAMES[kind] + " " + String.join(" ", values);
    }

    /** A text with one object, told by its NAME and VALUES, in an object of a kind. */
    static String in(int form, int parent, String inner) {
        return in(form, parent, inner, 3);
    }

    static String in(int form, int parent, String inner, int version) {
        int dots = parent < 0 ? 0 : depthOf(parent) + 1;
        String text = form == 0 ? "(" + inner + ")" : ".".repeat(dots) + inner + "\n";
        for (int k = parent; k >= 0; k = ABOVE[k]) {
            dots--;
            String outer = k == 0 ? "design " + version : whole(k);
            text = form == 0 ? "(" + outer + " " + text + ")" : ".".repeat(dots) + outer + "\n" + text;
        }
        return text;
    }

    /** An object that has read a text with one object of the kind; its number is depthOf(kind). */
    static SchematicText holding(int form, int kind) {
        return holding(form, kind, whole(kind));
    }

    static SchematicText holding(int form, int kind, String inner) {
        return Check.holding(form, in(form, ABOVE[kind], inner), depthOf(kind) + 1);
    }
}
