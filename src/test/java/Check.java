import java.io.IOException;
import java.nio.file.Files;
import java.nio.file.Path;

/** Counts the answers that are not as due, for one test's main method. */
final class Check {
    /** A call whose answer, or exception, is looked at. */
    interface Call {
        long answer();
    }

    private static final Path DOCUMENT = Path.of("../shared/DOC.md");

    private static int wrong = 0;
    private static String document = "";
    private static int place = 0;
    private static String words = "";
    private static int looks = 0;

    private Check() {
    }

    /** Opens the part of the document between two headings; words() goes through it. */
    static void open(String from, String to) throws IOException {
        String all = Files.readString(DOCUMENT);
        int begin = all.indexOf(from);
        int end = all.indexOf(to);
        if (begin < 0 || end < begin) {
            tell("the document has no part from " + from + " to " + to);
            return;
        }
        document = all.substring(begin, end).replaceAll("(?m)^(#|```).*$", "").replaceAll("(?m)^`[^`]*`: ", "")
            .replaceAll("\\s+", " ");
        place = 0;
    }

    /**
     * The next words of the document: the checks from this call to the next one are theirs.
     * Words that no test takes up are told, and so are a test's words that the document does not have.
     */
    static void words(String next) {
        tellUnchecked();
        int from = document.indexOf(next, place);
        if (from < 0) {
            tell("the document does not go on with: " + next);
        } else {
            tellUntaken(from);
            place = from + next.length();
        }
        words = next;
        looks = 0;
    }

    /** Ends the part that was opened. */
    static void close() {
        tellUnchecked();
        tellUntaken(document.length());
        words = "";
    }

    private static void tellUnchecked() {
        if (!words.isEmpty() && looks == 0) {
            tell("there is no check");
        }
    }

    private static void tellUntaken(int until) {
        String passed = document.substring(place, until);
        if (passed.matches(".*[A-Za-z0-9].*")) {
            tell("up to the words behind these, the document has words without a test: " + passed);
        }
    }

    static void same(String what, long got, long due) {
        looks++;
        if (got != due) {
            tell(what + " answered " + got + ", due is " + due);
        }
    }

    static void same(String what, String got, String due) {
        looks++;
        if (!due.equals(got)) {
            tell(what + " answered\n" + got + "\ndue is\n" + due);
        }
    }

    static void yes(String what, boolean got) {
        looks++;
        if (!got) {
            tell(what + " answered false, due is true");
        }
    }

    static void no(String what, boolean got) {
        looks++;
        if (got) {
            tell(what + " answered true, due is false");
        }
    }

    static void fails(String what, Class<? extends RuntimeException> due, Call call) {
        looks++;
        try {
            tell(what + " answered " + call.answer() + ", due is " + due.getSimpleName());
        } catch (RuntimeException e) {
            if (e.getClass() != due) {
                tell(what + " threw " + e.getClass().getName() + ", due is " + due.getSimpleName());
            }
        }
    }

    static void noObject(String what, Call call) {
        fails(what, IndexOutOfBoundsException.class, call);
    }

    static void tell(String fault) {
        wrong++;
        if (wrong <= 40) {
            System.out.println(words.isEmpty() ? fault : "\"" + words + "\": " + fault);
        }
    }

    static void feed(SchematicText x, String text) {
        for (int i = 0; i < text.length(); i++) {
            if (!x.unit(text.charAt(i))) {
                tell("unit refused character " + i + " of " + text);
                return;
            }
        }
    }

    static SchematicText fed(int form, String text) {
        SchematicText x = new SchematicText(form);
        feed(x, text);
        return x;
    }

    /** An object that has read a text which must hold that many objects. */
    static SchematicText holding(int form, String text, int objects) {
        SchematicText x = fed(form, text);
        same("read of " + text, x.read(), objects);
        return x;
    }

    static void reads(int form, String text, int objects) {
        holding(form, text, objects);
    }

    /** The place of the fault is that of the first | in the text, which is not fed. */
    static void fault(int form, String marked) {
        int place = marked.indexOf('|');
        String text = marked.substring(0, place) + marked.substring(place + 1);
        same("form " + form + ", read of " + marked, fed(form, text).read(), -1 - place);
    }

    static String written(SchematicText x) {
        StringBuilder all = new StringBuilder();
        for (int c = x.write(0); c != SchematicText.NONE; c = x.write(all.length())) {
            all.append((char) c);
        }
        return all.toString();
    }

    static String textOf(SchematicText x, int k, int what) {
        StringBuilder all = new StringBuilder();
        int size = x.text(k, what, SchematicText.NONE);
        for (int i = 0; i < size; i++) {
            all.append((char) x.text(k, what, i));
        }
        return all.toString();
    }

    static String keptOf(SchematicText x, int k) {
        StringBuilder all = new StringBuilder();
        int size = x.unknown(k, SchematicText.NONE);
        for (int i = 0; i < size; i++) {
            all.append((char) x.unknown(k, i));
        }
        return all.toString();
    }

    static void end() {
        System.out.println(wrong == 0 ? "all answers are as due" : wrong + " answers are not as due");
        if (wrong != 0) {
            System.exit(1);
        }
    }
}
