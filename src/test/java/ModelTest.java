/** Random texts, whole and spoiled, and random calls: the class answers as the Model does. */
public final class ModelTest {
    private static final Texts TEXTS = new Texts(20261115);
    private static int read = 0;
    private static int refused = 0;

    public static void main(String[] args) {
        for (int round = 0; round < 60_000; round++) {
            int form = round % 2;
            String text = TEXTS.perhapsSpoiled(form);
            compare(form, text, TEXTS.whole(form));
        }
        Check.yes("many texts were read", read > 10_000);
        Check.yes("many texts were refused", refused > 10_000);
        Check.end();
    }

    private static void compare(int form, String text, String next) {
        if (text.length() > 4000 || next.length() > 4000) {
            return;
        }
        SchematicText x = Check.fed(form, text);
        Model model = new Model(form);
        model.text = text;
        readBoth(x, model);
        change(x, model);
        sameState(x, model);
        x.clear();
        Check.feed(x, next);
        model.text = next;
        readBoth(x, model);
        sameState(x, model);
    }

    private static void readBoth(SchematicText x, Model model) {
        int due = model.read();
        Check.same("read of\n" + model.text + "\n", x.read(), due);
        read += due > 0 ? 1 : 0;
        refused += due > 0 ? 0 : 1;
        sameState(x, model);
    }

    private static void change(SchematicText x, Model model) {
        for (int i = TEXTS.upTo(12); i > 0; i--) {
            int parent = model.nodes.isEmpty() ? -1 : TEXTS.upTo(model.nodes.size()) - 1;
            int kind = TEXTS.upTo(9);
            Check.same("object", x.object(parent, kind), model.object(parent, kind));
        }
        for (int i = model.nodes.isEmpty() ? 0 : TEXTS.upTo(6); i > 0; i--) {
            int k = TEXTS.upTo(model.nodes.size() - 1);
            Model.Node node = model.nodes.get(k);
            if (!node.numbers.isEmpty()) {
                int what = TEXTS.upTo(node.numbers.size() - 1);
                long v = 1 + TEXTS.upTo(8);
                Check.yes("set", x.set(k, what, v));
                node.numbers.set(what, v);
            }
            if (!node.texts.isEmpty()) {
                int what = TEXTS.upTo(node.texts.size() - 1);
                String was = node.texts.get(what);
                boolean fits = was.length() + 2 <= 40;
                Check.same("set text", x.set(k, -1 - what, 0x5C0022) ? 1 : 0, fits ? 1 : 0);
                node.texts.set(what, fits ? was + "\\\"" : was);
            }
        }
    }

    private static void sameState(SchematicText x, Model model) {
        Check.same("version", x.version(), model.version);
        Check.same("depth", x.depth(), model.depth());
        int count = model.nodes.size();
        Check.noObject("kind behind the last", () -> x.kind(count));
        for (int k = 0; k < count; k++) {
            Model.Node node = model.nodes.get(k);
            Check.same("kind", x.kind(k), node.kind);
            Check.same("parent", x.parent(k), model.nodes.indexOf(node.parent));
            for (int what = 0; what < node.numbers.size(); what++) {
                Check.same("number", x.number(k, what), node.numbers.get(what));
            }
            for (int what = 0; what < node.texts.size(); what++) {
                Check.same("text", Check.textOf(x, k, what), node.texts.get(what));
            }
            if (node.kind == 9) {
                Check.same("kept", Check.keptOf(x, k), node.kept);
            }
        }
        if (count > 0) {
            Check.same("written", Check.written(x), model.written());
        }
    }
}
