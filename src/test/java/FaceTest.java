import java.lang.reflect.Constructor;
import java.lang.reflect.Executable;
import java.lang.reflect.Field;
import java.lang.reflect.Method;
import java.lang.reflect.Modifier;
import java.nio.file.Files;
import java.nio.file.Path;
import java.util.Set;
import java.util.TreeSet;

/** The public face, and the rules of LANGUAGE.md that a look at members or lines can tell. */
public final class FaceTest {
    private static final Set<String> DUE = new TreeSet<>(Set.of(
        "public static final int NONE",
        "public SchematicText(int)",
        "public boolean unit(int)",
        "public int read()",
        "public int kind(int) IndexOutOfBoundsException",
        "public int parent(int) IndexOutOfBoundsException",
        "public long number(int,int) IndexOutOfBoundsException",
        "public int text(int,int,int) IndexOutOfBoundsException",
        "public int version()",
        "public int unknown(int,int) IndexOutOfBoundsException IllegalStateException",
        "public int write(int) IndexOutOfBoundsException IllegalStateException",
        "public int object(int,int) IndexOutOfBoundsException IllegalArgumentException",
        "public boolean set(int,int,long) IndexOutOfBoundsException",
        "public int depth()",
        "public void clear()"));
    private static final String[] BANNED = {"import ", "package ", "->", "::", "catch", "finally", "synchronized", "assert ",
        "static {", "System.", "Exact(", "ordinal(", "hashCode", "toString"};

    public static void main(String[] args) throws Exception {
        Class<?> type = SchematicText.class;
        Check.same("the class's modifiers", Modifier.toString(type.getModifiers()), "public final");
        Check.same("the face", String.join("\n", face(type)), String.join("\n", DUE));
        for (Class<?> inner : type.getDeclaredClasses()) {
            Check.yes(inner + " is private and static",
                Modifier.isPrivate(inner.getModifiers()) && Modifier.isStatic(inner.getModifiers()));
        }
        Check.yes("twelve classes at most", type.getDeclaredClasses().length < 12);
        String source = Files.readString(Path.of("src/main/java/SchematicText.java"));
        for (String word : BANNED) {
            Check.no("the source has " + word, source.contains(word));
        }
        asInTheDocument(source);
        madeInConstructors(source);
        Check.end();
    }

    /** Each line of the document's face stands in the source, names of parameters and all. */
    private static void asInTheDocument(String source) throws Exception {
        int lines = 0;
        for (String line : Files.readAllLines(Path.of("../shared/DOC.md"))) {
            if (line.startsWith("public final class ") || line.startsWith("    public ")) {
                lines++;
                Check.yes("the source has " + line, source.contains(line.replace(";", "").stripTrailing()));
            }
        }
        Check.same("lines of the face and of the class", lines, DUE.size() + 1);
    }

    /** Rows and objects are made once, with the object: no call makes more than an exception. */
    private static void madeInConstructors(String source) {
        for (String line : source.split("\n")) {
            boolean kept = line.startsWith("        this.") || line.startsWith("        private final ");
            boolean thrown = line.contains(" throw new ");
            Check.no("a call makes something: " + line, line.matches(".*\\bnew [A-Za-z]+[(\\[].*") && !kept && !thrown);
        }
    }

    private static Set<String> face(Class<?> type) {
        Set<String> face = new TreeSet<>();
        for (Field field : type.getDeclaredFields()) {
            if (!Modifier.isPrivate(field.getModifiers())) {
                face.add(Modifier.toString(field.getModifiers()) + " " + field.getType().getSimpleName() + " " + field.getName());
            }
        }
        for (Constructor<?> made : type.getDeclaredConstructors()) {
            addVisible(face, made, type.getSimpleName());
        }
        for (Method method : type.getDeclaredMethods()) {
            addVisible(face, method, method.getReturnType().getSimpleName() + " " + method.getName());
        }
        return face;
    }

    private static void addVisible(Set<String> face, Executable member, String name) {
        if (Modifier.isPrivate(member.getModifiers())) {
            return;
        }
        StringBuilder row = new StringBuilder(Modifier.toString(member.getModifiers())).append(' ').append(name).append('(');
        for (Class<?> parameter : member.getParameterTypes()) {
            row.append(row.charAt(row.length() - 1) == '(' ? "" : ",").append(parameter.getSimpleName());
        }
        row.append(')');
        for (Class<?> thrown : member.getExceptionTypes()) {
            row.append(' ').append(thrown.getSimpleName());
        }
        face.add(row.toString());
    }
}
