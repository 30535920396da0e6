/** Counts the answers that are not as due, for one test's main method. */
final class Check {
    /** A call whose answer, or exception, is looked at. */
    interface Call {
        long answer();
    }

    private static int wrong = 0;

    private Check() {
    }

    static void same(String what, long got, long due) {
        if (got != due) {
            tell(what + " answered " + got + ", due is " + due);
        }
    }

    static void same(String what, String got, String due) {
        if (!due.equals(got)) {
            tell(what + " answered\n" + got + "\ndue is\n" + due);
        }
    }

    static void yes(String what, boolean got) {
        if (!got) {
            tell(what + " answered false, due is true");
        }
    }

    static void no(String what, boolean got) {
        if (got) {
            tell(what + " answered true, due is false");
        }
    }

    static void fails(String what, Class<? extends RuntimeException> due, Call call) {
        try {
            tell(what + " answered " + call.answer() + ", due is " + due.getSimpleName());
        } catch (RuntimeException e) {
            if (e.getClass() != due) {
                tell(what + " threw " + e.getClass().getName() + ", due is " + due.getSimpleName());
            }
        }
    }

    static void noObject(String what, Call call) {
        fails(what, IndexOutOfBoundsException.class, call);
    }

    static void tell(String fault) {
        wrong++;
        if (wrong <= 40) {
            System.out.println(fault);
        }
    }

    static void feed(SchematicText x, String text) {
        for (int i = 0; i < text.length(); i++) {
            if (!x.unit(text.charAt(i))) {
                tell("unit refused character " + i + " of " + text);
                return;
            }
        }
    }

    static SchematicText fed(int form, String text) {
        SchematicText x = new SchematicText(form);
        feed(x, text);
        return x;
    }

    /** An object that has read a text which must hold that many objects. */
    static SchematicText holding(int form, String text, int objects) {
        SchematicText x = fed(form, text);
        same("read of " + text, x.read(), objects);
        return x;
    }

    static void reads(int form, String text, int objects) {
        holding(form, text, objects);
    }

    /** The place of the fault is that of the first | in the text, which is not fed. */
    static void fault(int form, String marked) {
        int place = marked.indexOf('|');
        String text = marked.substring(0, place) + marked.substring(place + 1);
        same("form " + form + ", read of " + marked, fed(form, text).read(), -1 - place);
    }

    static String written(SchematicText x) {
        StringBuilder all = new StringBuilder();
        for (int c = x.write(0); c != SchematicText.NONE; c = x.write(all.length())) {
            all.append((char) c);
        }
        return all.toString();
    }

    static String textOf(SchematicText x, int k, int what) {
        StringBuilder all = new StringBuilder();
        int size = x.text(k, what, SchematicText.NONE);
        for (int i = 0; i < size; i++) {
            all.append((char) x.text(k, what, i));
        }
        return all.toString();
    }

    static String keptOf(SchematicText x, int k) {
        StringBuilder all = new StringBuilder();
        int size = x.unknown(k, SchematicText.NONE);
        for (int i = 0; i < size; i++) {
            all.append((char) x.unknown(k, i));
        }
        return all.toString();
    }

    static void end() {
        System.out.println(wrong == 0 ? "all answers are as due" : wrong + " answers are not as due");
        if (wrong != 0) {
            System.exit(1);
        }
    }
}
