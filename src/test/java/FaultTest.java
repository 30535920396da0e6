/** The places of faults, and the limits of what is read; a | stands ahead of the place. */
public final class FaultTest {
    public static void main(String[] args) {
        listFaults();
        lineFaults();
        valueFaults();
        textFaults();
        nameFaults();
        unknownFaults();
        open();
        objectRoom();
        keptRoom();
        Check.end();
    }

    private static void listFaults() {
        String[] faults = {"|", "  \n|", "|design 1", "|)", "(|", "( \n|", "(|(", "(|)", "(|1", "(|Design 1)", "(design|",
            "(design|)", "(design|(", "(design|1)", "(design |", "(design |)", "(design |(", "(design |x", "(design 1|",
            "(design 1 |", "(design 1|x", "(design 1 |2)", "(design 1 |\"\")", "(design 1)|)", "(design 1) \n|x",
            "(design 1)|(design 1)", "(design 1 (|", "(design 1 (sheet 1 \"\"|", "(design 1 (sheet 1 \"\")|",
            "(design 1 (sheet 1|\"\"))", "(design 1 (sheet 1 |))", "(design 1 (sheet |\"\" 1))",
            "(design 1 (sheet 1 \"\"|1))", "(design 1 (sheet 1 \"\" |1))", "(design 1 (sheet 1 \"\"|\"))"};
        for (String fault : faults) {
            Check.fault(0, fault);
        }
        String inUnit = "(sheet 1 \"\" (symbol 0 0 \"\" (unit 1 ";
        Check.fault(0, "(design 1 " + inUnit + "(pin 0 0 \"\" |0))))");
        Check.fault(0, "(design 2 " + inUnit + "(pin 0 0 \"\"|))))");
        Check.fault(0, "(design 2 " + inUnit + "(note 0 0 \"\" |1))))");
        Check.fault(0, "(design 3 " + inUnit + "(note 0 0 \"\"|))))");
        Check.fault(0, "(design 3 " + inUnit + "(note 0 0 \"\" |))))");
    }

    private static void lineFaults() {
        String[] faults = {"|", "|\n", "| design 1\n", "|.design 1\n", "|..", "|Design 1\n", "design|", "design|\n",
            "design|1\n", "design |", "design | 1\n", "design 1|", "design 1| \n", "design 1|.\n", "design 1|(",
            "design 1\n|\n", "design 1\n|design 1\n", "design 1\n|sheet 1 \"\"\n", "design 1\n|odd\n", "design 1\n|(",
            "design 1\n.|", "design 1\n.|\n", "design 1\n.| x", "design 1\n.|.", "design 1\n.|.sheet 1 \"\"\n",
            "design 1\n.|..odd\n", "design 1\n.sheet 1 \"\"|", "design 1\n.sheet 1 \"\"| \n", "design 1\n.sheet 1 | \"\"\n",
            "design 1\n.sheet 1|\n", "design 1\n.sheet 1 \"\"\n..|.wire 0 0 0 0\n", "design 1\n.sheet 1 \"\"\n|wire 0 0 0 0\n",
            "design 1\n.sheet 1 \"\"\n..wire 0 0 0 0\n...|odd\n", "design 1\n.sheet 1 \"\"\n..wire 0 0 0 0\n...|.odd\n",
            "design 1\n.odd|", "design 1\n.odd\n..|", "design 1\n.odd\n.|", "design 1\n.odd\n..x\n|odd\n", "design 1\n.odd\n|\n"};
        for (String fault : faults) {
            Check.fault(1, fault);
        }
        String inUnit = "\n.sheet 1 \"\"\n..symbol 0 0 \"\"\n...unit 1\n....";
        Check.fault(1, "design 1" + inUnit + "pin 0 0 \"\"| 0\n");
        Check.fault(1, "design 2" + inUnit + "pin 0 0 \"\"|\n");
        Check.fault(1, "design 2" + inUnit + "note 0 0 \"\"| 1\n");
        Check.fault(1, "design 3" + inUnit + "note 0 0 \"\"|\n");
        Check.fault(1, "design 3" + inUnit + "pin 0 0 \"\" 0\n.....|pin 0 0 \"\" 0\n");
    }

    private static void valueFaults() {
        String[] versions = {"|0)", "|4)", "|4", "|0", "|-1)", "|-0)", "-|", "-|)", "-|-1", "0000|1)", "1234|5)",
            "|0000)", "|9999)", "1|.0)", "|4.0)", "|+1", "|4x)"};
        for (String value : versions) {
            Check.fault(0, "(design " + value);
        }
        String[] pages = {"|-1 \"\"", "1234|5 \"\"", "9999|9 \"\"", "-1234|5 \"\"", "0|.5 \"\"", "|-1", "|-9999x"};
        for (String value : pages) {
            Check.fault(0, "(design 1 (sheet " + value + "))");
        }
        Check.fault(1, "design 1\n.sheet |-1");
        Check.fault(1, "design 1\n.sheet 9999|");
        String[] lengths = {"|1000.000001 0", "|-1000.000001 0", "|1001 0", "|9999.999999", "0.000000|0", "1234|5", "1.|", "1.| 0",
            "1.|.", "1.|-1", "|.5", "-|.5", "-|", "1001.|", "1001.000000|0", "1|,5", "1|e3", "|x"};
        for (String value : lengths) {
            Check.fault(0, "(design 1 (sheet 1 \"\" (wire " + value);
            Check.fault(1, "design 1\n.sheet 1 \"\"\n..wire " + value);
        }
        String inUnit = "(design 2 (sheet 1 \"\" (symbol 0 0 \"\" (unit ";
        String[] units = {"|0)", "|-1)", "|0", "9999|9)"};
        for (String value : units) {
            Check.fault(0, inUnit + value);
        }
        String[] parts = {"(pin 0 0 \"\" |10)", "(pin 0 0 \"\" |-1)", "(arc 0 0 0 |361 0)", "(arc 0 0 0 0 |-361)", "(arc 0 0 0 0 1|.5)"};
        for (String part : parts) {
            Check.fault(0, inUnit + "1 " + part);
        }
        Check.reads(0, inUnit + "9999 (pin 0 0 \"\" 9) (arc -1000 1000 -1000.000000 -360 360)))))", 6);
    }

    private static void textFaults() {
        String[] texts = {"|x", "\"|", "\"a|", "\"a\\|", "\"a\\|n\"", "\"a|\nb\"", "\"\\\"|", "\"\\\\\"|\"",
            "\"" + "a".repeat(40) + "|a\"", "\"" + "\\\\".repeat(40) + "|\\\"\"", "\"" + "a".repeat(40) + "|"};
        for (String text : texts) {
            Check.fault(0, "(design 1 (sheet 1 " + text);
            Check.fault(1, "design 1\n.sheet 1 " + text);
        }
    }

    private static void nameFaults() {
        String[] first = {"|desig 1)", "|designs 1)", "|sheet 1 \"\")", "|odd)", "|dex", "|desig", "design|A", "|d_"};
        for (String name : first) {
            Check.fault(0, "(" + name);
            Check.fault(1, name);
        }
        String[] names = {"design 1", "sheet 1 \"\"", "symbol 0 0 \"\"", "unit 1", "pin 0 0 \"\" 1", "arc 0 0 0 0 0",
            "note 0 0 \"\" 1", "wire 0 0 0 0", "field \"\" \"\"", "odd"};
        int[][] homes = {{}, {0, 1}, {1}, {2}, {3}, {3}, {1, 3}, {1}, {1, 2}, {0, 1, 2, 3}};
        int[] above = {-1, 0, 1, 2, 3, 3, 3, 1, 1, 0};
        for (int parent = 0; parent < 9; parent++) {
            for (int kind = 0; kind < 10; kind++) {
                boolean may = false;
                for (int home : homes[kind]) {
                    may |= home == parent;
                }
                place(names, above, parent, kind, may);
            }
        }
    }

    /** One object of a kind in one of another: read, or a fault at the first letter of its NAME. */
    private static void place(String[] names, int[] above, int parent, int kind, boolean may) {
        String lists = "(|" + names[kind] + ")";
        String lines = "";
        int deep = 0;
        for (int k = parent; k >= 0; k = above[k]) {
            lists = "(" + (k == 0 ? "design 3" : names[k]) + " " + lists + ")";
            deep++;
        }
        int dots = deep;
        lines = ".".repeat(dots) + "|" + names[kind] + "\n";
        for (int k = parent; k >= 0; k = above[k]) {
            dots--;
            lines = ".".repeat(dots) + (k == 0 ? "design 3" : names[k]) + "\n" + lines;
        }
        if (may) {
            Check.reads(0, lists.replace("|", ""), deep + 1);
            Check.reads(1, lines.replace("|", ""), deep + 1);
        } else {
            Check.fault(0, lists);
            Check.fault(1, lines);
        }
    }

    private static void unknownFaults() {
        String[] faults = {"(odd|", "(odd (|", "(odd ()|", "(odd \"|", "(odd \")|", "(odd \"\\|", "(odd \"\\\")|", "(odd \"\\|x\")",
            "(odd \"\\|\n\")", "(odd))|x", "(odd) |odd)", "( |", "(odd)|x"};
        for (String fault : faults) {
            Check.fault(0, "(design 1 " + fault);
        }
        String[] fine = {"(odd)", "( odd)", "(\nodd1?)", "(odd \\ \\x ())", "(odd \"" + "a\n".repeat(100) + "\")", "(odd \"\\\\\")",
            "(odd \"\\\"\")", "(odd design 1 (design 4))", "(odd.)", "(odd\"\")"};
        for (String unknown : fine) {
            Check.reads(0, "(design 1 " + unknown + ")", 2);
        }
        String[] lines = {"odd\n", "odd1?\n", "odd \"\n", "odd\n..\n", "odd\n......\n..design\n", "odd \\x(\n..\"\n"};
        for (String unknown : lines) {
            Check.reads(1, "design 1\n." + unknown, 2);
            Check.reads(1, "design 1\n." + unknown + ".sheet 1 \"\"\n", 3);
        }
    }

    private static void open() {
        Check.reads(0, "(design 1 (odd " + "(".repeat(98) + ")".repeat(98) + "))", 2);
        Check.fault(0, "(design 1 (odd " + "(".repeat(98) + "|(" + ")".repeat(99) + "))");
        Check.fault(0, "(design 1 (odd " + "(".repeat(98) + "|(");
        Check.reads(0, "(design 1 (odd " + "()".repeat(150) + "\"" + "(".repeat(150) + "\"))", 2);
        Check.reads(0, "(design 1 (sheet 1 \"\" (odd " + "(".repeat(97) + ")".repeat(97) + ")))", 3);
        Check.fault(0, "(design 1 (sheet 1 \"\" (odd " + "(".repeat(97) + "|(");
        String sheets = "(design 1" + "(sheet 1 \"\"".repeat(99);
        Check.reads(0, sheets + ")".repeat(100), 100);
        Check.fault(0, sheets + "|(sheet 1 \"\"");
        Check.fault(0, sheets + "|(odd)");
        Check.fault(0, sheets + "|(");
        Check.reads(0, "(design 1" + "(sheet 1 \"\"".repeat(98) + "(odd)".repeat(3) + ")".repeat(99), 102);
        Check.fault(0, "(design 1" + "(sheet 1 \"\"".repeat(98) + "(odd|()");
    }

    private static void objectRoom() {
        Check.reads(0, "(design 1 " + "(sheet 1 \"\")".repeat(199) + ")", 200);
        Check.fault(0, "(design 1 " + "(sheet 1 \"\")".repeat(199) + "( |sheet 1 \"\"))");
        Check.fault(0, "(design 1 " + "(a)".repeat(199) + "(|a))");
        Check.reads(1, "design 1\n" + ".sheet 1 \"\"\n".repeat(199), 200);
        Check.fault(1, "design 1\n" + ".sheet 1 \"\"\n".repeat(199) + ".|sheet 1 \"\"\n");
        Check.reads(1, "design 1\n" + ".a\n..b\n".repeat(199), 200);
        Check.fault(1, "design 1\n" + ".a\n..b\n".repeat(199) + ".|a\n");
    }

    private static void keptRoom() {
        Check.reads(0, "(design 1 (a" + " ".repeat(1997) + "))", 2);
        Check.fault(0, "(design 1 (a" + " ".repeat(1998) + "|))");
        Check.fault(0, "(design 1 (a" + " ".repeat(1998) + "| ))");
        Check.fault(0, "(design 1 (a\"" + "\\\\".repeat(998) + "\\|\\\"))");
        Check.fault(0, "(design 1 (a)(b" + " ".repeat(1995) + "|))");
        Check.fault(0, "(design 1 (a" + " ".repeat(1997) + ")|(b))");
        Check.fault(0, "(design 1 (a" + " ".repeat(1996) + ")(|b))");
        Check.fault(0, "(design 1 (a" + " ".repeat(1994) + ")(bc|d))");
        Check.reads(1, "design 1\n." + "a".repeat(2000) + "\n.sheet 1 \"\"\n", 3);
        Check.fault(1, "design 1\n." + "a".repeat(2000) + "|a\n");
        Check.fault(1, "design 1\n." + "a".repeat(2000) + "|");
        Check.fault(1, "design 1\n." + "a".repeat(2000) + "|\n..\n");
        Check.fault(1, "design 1\n." + "a".repeat(1999) + "\n|..\n");
        Check.fault(1, "design 1\n." + "a".repeat(2000) + "\n.|a\n");
        Check.reads(1, "design 1\n." + "a".repeat(1997) + "\n..\n", 2);
    }
}
