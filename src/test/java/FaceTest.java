import java.io.IOException;
import java.lang.reflect.Constructor;
import java.lang.reflect.Field;
import java.lang.reflect.Method;
import java.lang.reflect.Modifier;
import java.nio.file.Files;
import java.nio.file.Path;
import java.util.HashSet;
import java.util.Set;
import java.util.TreeSet;

/** The face of the class is that of ../shared/DOC.md, and its text uses nothing that LANGUAGE.md leaves out. */
public final class FaceTest {
    private static final String[] LEFT_OUT = {"->", "::", "finally", "synchronized", "assert", "Exact(", "hashCode",
        "toString(", "Random", "Thread", "System.", "package", "static {", "getMessage", " + \"", "\" + "};
    /** What is left out but for these uses of it. */
    private static final String[] ALLOWED = {"System.arraycopy", "return text.toString();"};

    private final Due due = new Due();

    public static void main(String[] args) throws IOException {
        FaceTest test = new FaceTest();
        Path shared = Path.of(args.length > 0 ? args[0] : "../shared");
        test.face(Files.readString(shared.resolve("DOC.md")));
        test.hiddenMembers();
        test.text(Files.readString(Path.of("src/main/java/Skylinesheet.java")));
        test.due.end();
    }

    private static String plain(String names) {
        return names.replace("java.lang.", "");
    }

    private static String types(Class<?>[] types) {
        StringBuilder text = new StringBuilder();
        for (Class<?> type : types) {
            text.append(text.length() == 0 ? "" : ", ").append(type.getSimpleName());
        }
        return text.toString();
    }

    private static String thrown(Class<?>[] types) {
        return types.length == 0 ? "" : " throws " + types(types);
    }

    private void face(String doc) {
        Set<String> promised = new TreeSet<>();
        String block = doc.substring(doc.indexOf("```java") + 7);
        block = block.substring(block.indexOf('{') + 1, block.indexOf("\n}"));
        for (String line : block.split(";")) {
            if (!line.isBlank()) {
                promised.add(line.trim().replaceAll("(int|boolean|long) \\w+(?=[,)])", "$1"));
            }
        }
        Set<String> got = new TreeSet<>();
        for (Method m : Skylinesheet.class.getDeclaredMethods()) {
            if (!Modifier.isPrivate(m.getModifiers()) && !m.isSynthetic()) {
                got.add(plain("public " + m.getReturnType().getSimpleName() + " " + m.getName() + "("
                    + types(m.getParameterTypes()) + ")" + thrown(m.getExceptionTypes())));
                due.is(m.getName() + " is public and nothing else", m.getModifiers(), Modifier.PUBLIC);
            }
        }
        for (Constructor<?> c : Skylinesheet.class.getDeclaredConstructors()) {
            got.add("public " + c.getName() + "(" + types(c.getParameterTypes()) + ")");
            due.is("the constructor is public", c.getModifiers(), Modifier.PUBLIC);
        }
        due.is("the face", got, promised);
        due.is("the class", Skylinesheet.class.getModifiers(), Modifier.PUBLIC | Modifier.FINAL);
    }

    private void hiddenMembers() {
        Set<String> names = new HashSet<>();
        for (Method m : Skylinesheet.class.getDeclaredMethods()) {
            if (Modifier.isPublic(m.getModifiers())) {
                names.add(m.getName());
            }
        }
        for (Field f : Skylinesheet.class.getDeclaredFields()) {
            due.is(f.getName() + " is private", Modifier.isPrivate(f.getModifiers()), true);
            due.is(f.getName() + " is final, if it is static",
                !Modifier.isStatic(f.getModifiers()) || Modifier.isFinal(f.getModifiers()), true);
        }
        privateNames(Skylinesheet.class, names);
        fewFields(Skylinesheet.class);
        due.is("some twelve classes at most", Skylinesheet.class.getDeclaredClasses().length <= 11, true);
        for (Class<?> inside : Skylinesheet.class.getDeclaredClasses()) {
            due.is(inside.getName() + " is static", Modifier.isStatic(inside.getModifiers()), true);
            due.is(inside.getName() + " is not public", Modifier.isPublic(inside.getModifiers()), false);
            privateNames(inside, names);
            fewFields(inside);
        }
    }

    private void fewFields(Class<?> type) {
        int count = 0;
        for (Field f : type.getDeclaredFields()) {
            count += Modifier.isStatic(f.getModifiers()) ? 0 : 1;
        }
        due.is(type.getName() + " has some twenty fields at most", count <= 20, true);
    }

    private void privateNames(Class<?> type, Set<String> names) {
        for (Method m : type.getDeclaredMethods()) {
            boolean isOther = type != Skylinesheet.class || Modifier.isPrivate(m.getModifiers());
            due.is(type.getName() + "." + m.getName() + " bears a name of the face",
                isOther && names.contains(m.getName()), false);
            due.is(m.getName() + " has seven parameters at most", m.getParameterCount() <= 7, true);
        }
    }

    private void text(String source) {
        String rest = source;
        for (String allowed : ALLOWED) {
            rest = rest.replace(allowed, "");
        }
        for (String word : LEFT_OUT) {
            due.is("the text has " + word, rest.contains(word), false);
        }
        for (String line : source.split("\n")) {
            if (line.startsWith("import")) {
                due.is("an import", line, "import java.util.Arrays;");
            }
        }
        due.is("signs above 126", source.chars().allMatch(c -> c <= 126), true);
    }
}
