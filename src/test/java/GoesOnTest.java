/**
 * "That of the first character with which no such text goes on", taken by its words and without a second reader:
 * what stands ahead of a fault's place goes on to a text that is read, and with the character there nothing does.
 * The class itself is asked what is read: this tells a place too early or too late, not a wrong reading of the document.
 */
public final class GoesOnTest {
    private static final Texts TEXTS = new Texts(20261116);
    /** What may be due where a text is cut, to come to the end of a VALUE or NAME. */
    private static final String[] FIRST = {"", "\"", "\\\"", "\"\"", "1", "a", "design 1", "(design 1"};
    /** What ends an object of the form, or is its next VALUE. */
    private static final String[][] NEXT = {{")", " 1", " \"\""}, {"\n", " 1", " \"\""}};
    private static final String[] TAILS = {"", " ", "\n", "a", "1", ".", "\"", "\\", "(", ")", " 1", " \"\"", "\")))))", "))))))",
        "\"\n", "\n.a\n", " 0 0 0 0\n", " 0 0 \"\" 1)))))", "(a))))))", "sheet 1 \"\"\n"};
    private static final SchematicText[] USED = {new SchematicText(0), new SchematicText(1)};

    private static int faults = 0;
    private static int behindAll = 0;
    private static int atTokens = 0;

    public static void main(String[] args) {
        for (int round = 0; round < 60_000; round++) {
            int form = round % 2;
            String text = TEXTS.perhapsSpoiled(form);
            int answer = readAnew(form, text);
            if (answer < 0) {
                look(form, text, -1 - answer);
            }
        }
        Check.yes("many faults", faults > 20_000);
        Check.yes("many texts that only end too early", behindAll > 2_000);
        Check.yes("many faults that are told at the first character of a NAME or VALUE", atTokens > 200);
        Check.end();
    }

    private static void look(int form, String text, int place) {
        faults++;
        if (place > text.length()) {
            Check.tell("a fault behind the length of " + text);
            return;
        }
        String ahead = text.substring(0, place);
        Check.yes("form " + form + ": it goes on: " + ahead, goesOn(form, ahead) || goesOn(form, withoutLast(form, text, place)));
        if (place == text.length()) {
            behindAll++;
            return;
        }
        if (!endsAll(form, text.substring(0, place + 1), place)) {
            atTokens++;
            int end = tokenEnd(text, place);
            String told = end < text.length() ? text.substring(0, end + 1) : text + " ";
            Check.yes("a NAME or VALUE begins at " + place + " of " + text, end > place && startsToken(text, place));
            Check.yes("form " + form + ", nothing goes on with it at " + place + ": " + told, endsAll(form, told, place));
        }
    }

    /**
     * Cuts what the document asks about only later: the bounds of a VALUE that has not ended,
     * and the ( or dots ahead of a NAME in an object that can hold none.
     */
    private static String withoutLast(int form, String text, int place) {
        String ahead = text.substring(0, place);
        if (ahead.endsWith("-") || ahead.matches("(?s).*[0-9]\\.") || text.substring(place).matches("(?s)[0-9].*")) {
            return ahead.replaceFirst("-?[0-9]*(\\.[0-9]*)?$", "");
        }
        return form == 0 ? ahead.replaceFirst("\\([ \n]*$", "") : ahead.replaceFirst("\n\\.+$", "\n");
    }

    private static boolean goesOn(int form, String ahead) {
        for (String first : FIRST) {
            if (endsWell(form, ahead + first)) {
                return true;
            }
        }
        return false;
    }

    /** Adds what the form needs next until the text is read, or nothing of it is right. */
    private static boolean endsWell(int form, String begun) {
        String text = begun;
        for (int step = 0; step < 40; step++) {
            if (readAnew(form, text) > 0) {
                return true;
            }
            String longer = null;
            for (int i = 0; i < NEXT[form].length && longer == null; i++) {
                String tried = text + NEXT[form][i];
                int answer = readAnew(form, tried);
                longer = answer > 0 || answer == -1 - tried.length() ? tried : null;
            }
            if (longer == null) {
                return false;
            }
            text = longer;
        }
        return false;
    }

    /** Whatever stands behind these characters, the fault is at the place. */
    private static boolean endsAll(int form, String begun, int place) {
        for (String tail : TAILS) {
            if (readAnew(form, begun + tail) != -1 - place) {
                return false;
            }
        }
        return true;
    }

    private static boolean startsToken(String text, int place) {
        return place == 0 || "( .\n".indexOf(text.charAt(place - 1)) >= 0;
    }

    private static int tokenEnd(String text, int place) {
        String digits = "-0123456789";
        String more = digits.indexOf(text.charAt(place)) >= 0 ? digits + "." : "abcdefghijklmnopqrstuvwxyz";
        int end = place;
        while (end < text.length() && more.indexOf(text.charAt(end)) >= 0) {
            end++;
        }
        return end;
    }

    private static int readAnew(int form, String text) {
        SchematicText x = USED[form];
        x.clear();
        Check.feed(x, text);
        return x.read();
    }
}
