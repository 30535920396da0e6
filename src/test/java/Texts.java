import java.util.Random;

/** Random texts of both forms, the same ones for the same seed. */
final class Texts {
    private static final String MARKS = "()\"\\.- \n0123456789adeghinoprstuwx?~";

    private final Random random;

    Texts(long seed) {
        this.random = new Random(seed);
    }

    int upTo(int most) {
        return random.nextInt(most + 1);
    }

    private <T> T one(T[] of) {
        return of[random.nextInt(of.length)];
    }

    /** A text without a fault. */
    String whole(int form) {
        int version = 1 + upTo(2);
        StringBuilder out = new StringBuilder();
        object(out, form, 0, 0, version, new int[] {1 + upTo(12)});
        String text = out.toString();
        return form == 0 ? blanks(0) + text + blanks(0) : text;
    }

    private String blanks(int least) {
        return " ".repeat(least) + (upTo(9) == 0 ? one(new String[] {" ", "\n", " \n "}) : "");
    }

    /** Writes an object with what is in it; left[0] is how many more there may be. */
    private void object(StringBuilder out, int form, int kind, int deep, int version, int[] left) {
        left[0]--;
        out.append(form == 0 ? "(" + blanks(0) : ".".repeat(deep));
        if (kind == 9) {
            out.append(unknown(form, deep)).append(form == 0 ? ")" : "\n");
            return;
        }
        out.append(Model.NAMES[kind]);
        if (kind == 0) {
            out.append(' ').append(version);
        }
        for (String field : Model.FIELDS[kind]) {
            if (field.indexOf('@') < 0 || field.charAt(field.length() - 1) - '0' <= version) {
                out.append(form == 0 ? blanks(1) : " ").append(value(field));
            }
        }
        out.append(form == 0 ? "" : "\n");
        while (left[0] > 0 && upTo(3) > 0) {
            int inner = upTo(9);
            if (Model.HOMES[inner].indexOf('0' + kind) >= 0) {
                out.append(form == 0 ? blanks(0) : "");
                object(out, form, inner, deep + 1, version, left);
            }
        }
        out.append(form == 0 ? blanks(0) + ")" : "");
    }

    private String unknown(int form, int deep) {
        String name = one(new String[] {"a", "zap", "sheets", "des"});
        if (form == 0) {
            return name + one(new String[] {"", " 1 (x)", "?", "\"(\\\\\\\"\n\"", "(((())())) \\"});
        }
        String more = "\n" + ".".repeat(deep + 1);
        return name + one(new String[] {"", " \"", "?", more, more + ".pin" + more + "\\"});
    }

    private String value(String field) {
        if (field.equals("T")) {
            return "\"" + one(new String[] {"", "A", "\\\"", "\\\\x", "some name", "()", "a".repeat(38 + upTo(2))}) + "\"";
        }
        if (field.startsWith("N")) {
            return one(new String[] {"0", "-0", "1.5", "-2.540", "1000", "-1000.000000", "0.000001", "0012", String.valueOf(upTo(1000)),
                upTo(999) + "." + upTo(999_999)});
        }
        String[] parts = field.split(" ");
        int lowest = Integer.parseInt(parts[1]);
        int highest = Integer.parseInt(parts[2]);
        return one(new String[] {parts[1], parts[2], String.valueOf(lowest + upTo(highest - lowest))});
    }

    /** A text that was changed in up to three places. */
    String perhapsSpoiled(int form) {
        String text = whole(form);
        for (int i = upTo(3); i > 0; i--) {
            text = random.nextBoolean() ? text : spoiled(text);
        }
        return text;
    }

    private String spoiled(String text) {
        int at = upTo(text.length());
        int end = Math.min(text.length(), at + 1 + upTo(2));
        String mark = String.valueOf(MARKS.charAt(upTo(MARKS.length() - 1)));
        switch (upTo(5)) {
            case 0: return text.substring(0, at);
            case 1: return text.substring(0, at) + text.substring(end);
            case 2: return text.substring(0, at) + mark + text.substring(at);
            case 3: return text.substring(0, at) + mark + text.substring(Math.min(text.length(), at + 1));
            case 4: return text.substring(0, end) + text.substring(at);
            default: return text + mark;
        }
    }
}
