import java.util.ArrayList;
import java.util.List;

/** The document a second time, with the Java library and recursion, to compare the class with. */
final class Model {
    static final String[] NAMES = {"design", "sheet", "symbol", "unit", "pin", "arc", "note", "wire", "field"};
    /** For each kind the kinds that it may be in. */
    static final String[] HOMES = {"", "01", "1", "2", "3", "3", "31", "1", "12", "0123"};
    /** A field: its sort (N, W, T), and for W its bounds; @ and a version when it came later. */
    static final String[][] FIELDS = {
        {}, {"W 0 9999", "T"}, {"N", "N", "T"}, {"W 1 9999"}, {"N", "N", "T", "W 0 9 @2"},
        {"N", "N", "N", "W -360 360", "W -360 360"}, {"N", "N", "T", "N @3"}, {"N", "N", "N", "N"}, {"T", "T"}, {}};

    static final class Node {
        final int kind;
        final Node parent;
        final int depth;
        final List<Node> inside = new ArrayList<>();
        final List<Long> numbers = new ArrayList<>();
        final List<String> texts = new ArrayList<>();
        String kept = "";

        Node(int kind, Node parent) {
            this.kind = kind;
            this.parent = parent;
            this.depth = parent == null ? 0 : parent.depth + 1;
            for (String field : FIELDS[kind]) {
                if (field.startsWith("T")) {
                    texts.add("");
                } else {
                    numbers.add(field.equals("N @3") ? 1_270_000L : kind == 3 ? 1L : 0L);
                }
            }
        }
    }

    private static final class Fault extends RuntimeException {
        private static final long serialVersionUID = 1L;
        final int place;

        Fault(int place) {
            this.place = place;
        }
    }

    final int form;
    String text = "";
    List<Node> nodes = new ArrayList<>();
    int version = 0;

    private List<Node> found;
    private int keptCount;
    private int foundVersion;
    private int p;

    Model(int form) {
        this.form = form;
    }

    int read() {
        found = new ArrayList<>();
        keptCount = 0;
        foundVersion = 0;
        p = 0;
        try {
            if (form == 0) {
                blanks();
                list(null, 0);
                blanks();
                if (p < text.length()) {
                    throw new Fault(p);
                }
            } else {
                lines();
            }
        } catch (Fault fault) {
            return -1 - fault.place;
        }
        nodes = found;
        version = foundVersion;
        return nodes.size();
    }

    private char here() {
        return p < text.length() ? text.charAt(p) : 0;
    }

    private void must(char c) {
        if (here() != c) {
            throw new Fault(p);
        }
        p++;
    }

    private void blanks() {
        while (here() == ' ' || here() == '\n') {
            p++;
        }
    }

    private static boolean canBeIn(int kind, Node parent) {
        return parent == null ? kind == 0 : HOMES[kind].indexOf('0' + parent.kind) >= 0;
    }

    private Node name(Node parent) {
        int from = p;
        String name = "";
        while (here() >= 'a' && here() <= 'z') {
            name += here();
            p++;
        }
        int kind = List.of(NAMES).indexOf(name);
        kind = kind < 0 ? 9 : kind;
        if (name.isEmpty() || !canBeIn(kind, parent) || found.size() == 200) {
            throw new Fault(from);
        }
        Node node = new Node(kind, parent);
        found.add(node);
        if (parent != null) {
            parent.inside.add(node);
        }
        return node;
    }

    private void list(Node parent, int open) {
        int from = p;
        if (here() == '(' && open == 100) {
            throw new Fault(p);
        }
        must('(');
        blanks();
        Node node = name(parent);
        if (node.kind == 9) {
            keepList(node, from, open + 1);
            return;
        }
        values(node);
        blanks();
        while (here() == '(') {
            list(node, open + 1);
            blanks();
        }
        must(')');
    }

    private void keepList(Node node, int from, int openAtFirst) {
        int open = openAtFirst;
        boolean quoted = false;
        for (int i = from; i < p; i++) {
            keepOne(i);
        }
        while (open >= openAtFirst) {
            if (p == text.length()) {
                throw new Fault(p);
            }
            keepOne(p);
            char c = here();
            if (quoted && c == '\\') {
                p++;
                if (p < text.length()) {
                    keepOne(p);
                }
                if (here() != '"' && here() != '\\') {
                    throw new Fault(p);
                }
            } else if (c == '"') {
                quoted = !quoted;
            } else if (!quoted && c == '(') {
                if (open == 100) {
                    throw new Fault(p);
                }
                open++;
            } else if (!quoted && c == ')') {
                open--;
            }
            p++;
        }
        node.kept = text.substring(from, p);
    }

    private void keepOne(int place) {
        if (keptCount == 2000) {
            throw new Fault(place);
        }
        keptCount++;
    }

    private void gap() {
        if (form == 1) {
            must(' ');
        } else if (here() != ' ' && here() != '\n') {
            throw new Fault(p);
        } else {
            blanks();
        }
    }

    private void values(Node node) {
        if (node.kind == 0) {
            gap();
            foundVersion = (int) value("W 1 3");
        }
        int numbers = 0;
        int texts = 0;
        for (String field : FIELDS[node.kind]) {
            int since = field.indexOf('@') < 0 ? 1 : field.charAt(field.length() - 1) - '0';
            if (foundVersion < since) {
                continue;
            }
            gap();
            if (field.equals("T")) {
                node.texts.set(texts++, quoted());
            } else {
                node.numbers.set(numbers++, value(field));
            }
        }
    }

    private String digits(int most) {
        String digits = "";
        while (here() >= '0' && here() <= '9') {
            if (digits.length() == most) {
                throw new Fault(p);
            }
            digits += here();
            p++;
        }
        if (digits.isEmpty()) {
            throw new Fault(p);
        }
        return digits;
    }

    private long value(String field) {
        int from = p;
        boolean minus = here() == '-';
        p += minus ? 1 : 0;
        String digits = digits(4);
        long lowest = -1_000_000_000L;
        long highest = 1_000_000_000L;
        if (field.startsWith("N")) {
            String point = "";
            if (here() == '.') {
                p++;
                point = digits(6);
            }
            digits += (point + "000000").substring(0, 6);
        } else {
            String[] parts = field.split(" ");
            lowest = Long.parseLong(parts[1]);
            highest = Long.parseLong(parts[2]);
        }
        long v = (minus ? -1 : 1) * Long.parseLong(digits);
        if (v < lowest || v > highest) {
            throw new Fault(from);
        }
        return v;
    }

    private String quoted() {
        must('"');
        String t = "";
        while (here() != '"') {
            if (here() < 32 || t.length() == 40) {
                throw new Fault(p);
            }
            if (here() == '\\') {
                p++;
                if (here() != '"' && here() != '\\') {
                    throw new Fault(p);
                }
            }
            t += here();
            p++;
        }
        p++;
        return t;
    }

    private static int dotsOf(String line) {
        int dots = 0;
        while (dots < line.length() && line.charAt(dots) == '.') {
            dots++;
        }
        return dots;
    }

    private String lineAt(int place) {
        int feed = text.indexOf('\n', place);
        return feed < 0 ? text.substring(place) : text.substring(place, feed);
    }

    private void lines() {
        List<Node> lastAt = new ArrayList<>();
        Node lastKnown = null;
        do {
            int dots = dotsOf(lineAt(p));
            int most = lastKnown == null ? 0 : lastKnown.depth + 1;
            if (dots > most) {
                throw new Fault(p + most);
            }
            if (dots == 0 && lastKnown != null) {
                throw new Fault(p);
            }
            p += dots;
            int from = p;
            Node node = name(dots == 0 ? null : lastAt.get(dots - 1));
            while (lastAt.size() > dots) {
                lastAt.remove(lastAt.size() - 1);
            }
            lastAt.add(node);
            if (node.kind == 9) {
                keepLines(node, from, dots);
            } else {
                lastKnown = node;
                values(node);
                must('\n');
            }
        } while (p < text.length());
    }

    private void keepLines(Node node, int from, int dots) {
        int end = from + lineAt(from).length();
        while (end < text.length() && dotsOf(lineAt(end + 1)) > dots) {
            end = end + 1 + lineAt(end + 1).length();
        }
        for (int i = from; i < end; i++) {
            keepOne(i);
        }
        node.kept = text.substring(from, end);
        p = end;
        must('\n');
    }

    int object(int parent, int kind) {
        Node in = parent < 0 ? null : nodes.get(parent);
        if (nodes.size() == 200 || kind == 9 || !canBeIn(kind, in) || in == null && !nodes.isEmpty()) {
            return -1;
        }
        Node node = new Node(kind, in);
        if (in != null) {
            in.inside.add(node);
        }
        nodes.add(node);
        return nodes.size() - 1;
    }

    int depth() {
        int most = 0;
        for (Node node : nodes) {
            most = Math.max(most, node.depth + 1);
        }
        return most;
    }

    String written() {
        StringBuilder out = new StringBuilder();
        writeNode(nodes.get(0), out);
        return form == 0 ? out.append('\n').toString() : out.toString();
    }

    private void writeNode(Node node, StringBuilder out) {
        out.append((form == 0 ? " " : ".").repeat(node.depth));
        if (node.kind == 9) {
            out.append(node.kept);
        } else {
            out.append(form == 0 ? "(" : "").append(NAMES[node.kind]).append(valuesWritten(node));
        }
        out.append(form == 0 ? "" : "\n");
        for (Node child : node.inside) {
            out.append(form == 0 ? "\n" : "");
            writeNode(child, out);
        }
        out.append(form == 0 && node.kind != 9 ? ")" : "");
    }

    private static String valuesWritten(Node node) {
        String values = node.kind == 0 ? " 3" : "";
        int numbers = 0;
        int texts = 0;
        for (String field : FIELDS[node.kind]) {
            values += " ";
            if (field.equals("T")) {
                values += "\"" + node.texts.get(texts++).replace("\\", "\\\\").replace("\"", "\\\"") + "\"";
            } else if (field.startsWith("N")) {
                values += java.math.BigDecimal.valueOf(node.numbers.get(numbers++), 6).stripTrailingZeros().toPlainString();
            } else {
                values += node.numbers.get(numbers++);
            }
        }
        return values;
    }
}
