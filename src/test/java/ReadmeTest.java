import java.io.IOException;
import java.lang.reflect.Method;
import java.lang.reflect.Modifier;
import java.nio.file.Files;
import java.nio.file.Path;

/** The README's example: it is the code of this test, and its remarks hold. */
public final class ReadmeTest {
    private static final Path README = Path.of("README.md");
    private static final String LISTS = "(design 3\n (sheet 7 \"Main2\"\n  (note 1 2.5 \"hello\" 1.27)\n  (wire 0 0 10 0)))\n";
    private static final String LINES = "design 3\n.sheet 7 \"Main2\"\n..note 1 2.5 \"hello\" 1.27\n..wire 0 0 10 0\n";
    private static final Path HERE = Path.of("src/test/java/ReadmeTest.java");

    public static void main(String[] args) throws IOException {
        example();
        standsHere();
        namesEachCall();
        Check.end();
    }

    private static void example() {
        // from here
        SchematicText x = new SchematicText(0);
        String text = "(design 2 (sheet 7 \"Main\" (note 1 2.5 \"hello\")))";
        for (int i = 0; i < text.length(); i++) {
            x.unit(text.charAt(i));
        }
        int count = x.read();            // 3 objects; with a fault: -1 minus its place
        long y = x.number(2, 1);         // 2_500_000 nanometres
        int wire = x.object(1, 7);       // a new wire in the sheet: object 3
        x.set(wire, 2, 10_000_000L);     // its second x becomes 10 mm
        x.set(1, -1, '2');               // the sheet's name becomes Main2
        StringBuilder out = new StringBuilder();
        for (int c = x.write(0); c != SchematicText.NONE; c = x.write(out.length())) {
            out.append((char) c);
        }
        // to here
        Check.same("count", count, 3);
        Check.same("y", y, 2_500_000);
        Check.same("wire", wire, 3);
        Check.same("out", out.toString(), LISTS);
        Check.same("the same objects as lines", Check.written(Check.holding(1, LINES, 4)), LINES);
    }

    private static void standsHere() throws IOException {
        String here = Files.readString(HERE);
        String code = here.substring(here.indexOf("// from here\n") + 13, here.indexOf("        // to here"));
        String readme = Files.readString(README);
        Check.yes("README.md has the example", readme.contains("```java\n" + code.indent(-8) + "```\n"));
        Check.yes("README.md has what it writes", readme.contains("```text\n" + LISTS + "```\n"));
        Check.yes("README.md has it as lines", readme.contains("```text\n" + LINES + "```\n"));
        Check.yes("README.md says how to run the tests", readme.contains("\n.ci/run\n"));
    }

    private static void namesEachCall() throws IOException {
        String readme = Files.readString(README);
        for (Method method : SchematicText.class.getDeclaredMethods()) {
            if (Modifier.isPublic(method.getModifiers())) {
                Check.yes("README.md tells of " + method.getName(), readme.contains("`" + method.getName() + "("));
            }
        }
    }
}
