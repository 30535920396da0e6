import java.util.Random;

/** Random texts, whole and spoiled, and random calls: the class answers as the Model does. */
public final class ModelTest {
    private static final String MARKS = "()\"\\.- \n0123456789adeghinoprstuwx?~";
    private static final Random RANDOM = new Random(20261115);
    private static int read = 0;
    private static int refused = 0;

    public static void main(String[] args) {
        for (int round = 0; round < 60_000; round++) {
            int form = round % 2;
            String text = text(form);
            for (int i = RANDOM.nextInt(4); i > 0; i--) {
                text = RANDOM.nextBoolean() ? text : spoiled(text);
            }
            compare(form, text, text(form));
        }
        Check.yes("many texts were read", read > 10_000);
        Check.yes("many texts were refused", refused > 10_000);
        Check.end();
    }

    private static int upTo(int most) {
        return RANDOM.nextInt(most + 1);
    }

    private static <T> T one(T[] of) {
        return of[RANDOM.nextInt(of.length)];
    }

    private static String text(int form) {
        int version = 1 + upTo(2);
        StringBuilder out = new StringBuilder();
        object(out, form, 0, 0, version, new int[] {1 + upTo(12)});
        String text = out.toString();
        return form == 0 ? blanks(0) + text + blanks(0) : text;
    }

    private static String blanks(int least) {
        return " ".repeat(least) + (upTo(9) == 0 ? one(new String[] {" ", "\n", " \n "}) : "");
    }

    /** Writes an object with what is in it; left[0] is how many more there may be. */
    private static void object(StringBuilder out, int form, int kind, int deep, int version, int[] left) {
        left[0]--;
        out.append(form == 0 ? "(" + blanks(0) : ".".repeat(deep));
        if (kind == 9) {
            out.append(unknown(form, deep)).append(form == 0 ? ")" : "\n");
            return;
        }
        out.append(Model.NAMES[kind]);
        if (kind == 0) {
            out.append(' ').append(version);
        }
        for (String field : Model.FIELDS[kind]) {
            if (field.indexOf('@') < 0 || field.charAt(field.length() - 1) - '0' <= version) {
                out.append(form == 0 ? blanks(1) : " ").append(value(field));
            }
        }
        out.append(form == 0 ? "" : "\n");
        while (left[0] > 0 && upTo(3) > 0) {
            int inner = upTo(9);
            if (Model.HOMES[inner].indexOf('0' + kind) >= 0) {
                out.append(form == 0 ? blanks(0) : "");
                object(out, form, inner, deep + 1, version, left);
            }
        }
        out.append(form == 0 ? blanks(0) + ")" : "");
    }

    private static String unknown(int form, int deep) {
        String name = one(new String[] {"a", "zap", "sheets", "des"});
        if (form == 0) {
            return name + one(new String[] {"", " 1 (x)", "?", "\"(\\\\\\\"\n\"", "(((())())) \\"});
        }
        String more = "\n" + ".".repeat(deep + 1);
        return name + one(new String[] {"", " \"", "?", more, more + ".pin" + more + "\\"});
    }

    private static String value(String field) {
        if (field.equals("T")) {
            return "\"" + one(new String[] {"", "A", "\\\"", "\\\\x", "some name", "()", "a".repeat(38 + upTo(2))}) + "\"";
        }
        if (field.startsWith("N")) {
            return one(new String[] {"0", "-0", "1.5", "-2.540", "1000", "-1000.000000", "0.000001", "0012", String.valueOf(upTo(1000)),
                upTo(999) + "." + upTo(999_999)});
        }
        String[] parts = field.split(" ");
        int lowest = Integer.parseInt(parts[1]);
        int highest = Integer.parseInt(parts[2]);
        return one(new String[] {parts[1], parts[2], String.valueOf(lowest + upTo(highest - lowest))});
    }

    private static String spoiled(String text) {
        int at = upTo(text.length());
        int end = Math.min(text.length(), at + 1 + upTo(2));
        String mark = String.valueOf(MARKS.charAt(upTo(MARKS.length() - 1)));
        switch (upTo(5)) {
            case 0: return text.substring(0, at);
            case 1: return text.substring(0, at) + text.substring(end);
            case 2: return text.substring(0, at) + mark + text.substring(at);
            case 3: return text.substring(0, at) + mark + text.substring(Math.min(text.length(), at + 1));
            case 4: return text.substring(0, end) + text.substring(at);
            default: return text + mark;
        }
    }

    private static void compare(int form, String text, String next) {
        if (text.length() > 4000 || next.length() > 4000) {
            return;
        }
        SchematicText x = Check.fed(form, text);
        Model model = new Model(form);
        model.text = text;
        readBoth(x, model);
        change(x, model);
        sameState(x, model);
        x.clear();
        Check.feed(x, next);
        model.text = next;
        readBoth(x, model);
        sameState(x, model);
    }

    private static void readBoth(SchematicText x, Model model) {
        int due = model.read();
        Check.same("read of\n" + model.text + "\n", x.read(), due);
        read += due > 0 ? 1 : 0;
        refused += due > 0 ? 0 : 1;
        sameState(x, model);
    }

    private static void change(SchematicText x, Model model) {
        for (int i = upTo(12); i > 0; i--) {
            int parent = model.nodes.isEmpty() ? -1 : upTo(model.nodes.size()) - 1;
            int kind = upTo(9);
            Check.same("object", x.object(parent, kind), model.object(parent, kind));
        }
        for (int i = model.nodes.isEmpty() ? 0 : upTo(6); i > 0; i--) {
            int k = upTo(model.nodes.size() - 1);
            Model.Node node = model.nodes.get(k);
            if (!node.numbers.isEmpty()) {
                int what = upTo(node.numbers.size() - 1);
                long v = 1 + upTo(8);
                Check.yes("set", x.set(k, what, v));
                node.numbers.set(what, v);
            }
            if (!node.texts.isEmpty()) {
                int what = upTo(node.texts.size() - 1);
                String was = node.texts.get(what);
                boolean fits = was.length() + 2 <= 40;
                Check.same("set text", x.set(k, -1 - what, 0x5C0022) ? 1 : 0, fits ? 1 : 0);
                node.texts.set(what, fits ? was + "\\\"" : was);
            }
        }
    }

    private static void sameState(SchematicText x, Model model) {
        Check.same("version", x.version(), model.version);
        Check.same("depth", x.depth(), model.depth());
        int count = model.nodes.size();
        Check.noObject("kind behind the last", () -> x.kind(count));
        for (int k = 0; k < count; k++) {
            Model.Node node = model.nodes.get(k);
            Check.same("kind", x.kind(k), node.kind);
            Check.same("parent", x.parent(k), model.nodes.indexOf(node.parent));
            for (int what = 0; what < node.numbers.size(); what++) {
                Check.same("number", x.number(k, what), node.numbers.get(what));
            }
            for (int what = 0; what < node.texts.size(); what++) {
                Check.same("text", Check.textOf(x, k, what), node.texts.get(what));
            }
            if (node.kind == 9) {
                Check.same("kept", Check.keptOf(x, k), node.kept);
            }
        }
        if (count > 0) {
            Check.same("written", Check.written(x), model.written());
        }
    }
}
