import java.io.IOException;
import java.lang.reflect.Constructor;
import java.lang.reflect.Executable;
import java.lang.reflect.Field;
import java.lang.reflect.Method;
import java.lang.reflect.Modifier;
import java.nio.file.Files;
import java.nio.file.Path;
import java.util.StringJoiner;
import java.util.TreeSet;

/** 'The public face': the class has what the document writes there, word for word, and nothing else to be seen. */
public final class FaceTest {
    private static final Path DOCUMENT = Path.of("../shared/DOC.md");
    private static final Class<?> FACE = LeasedReferences.class;
    private static final Checks c = new Checks();

    public static void main(String[] args) throws ReflectiveOperationException, IOException {
        c.promise(1, "and all the others: the public face");
        String document = Files.readString(DOCUMENT);
        TreeSet<String> written = new TreeSet<>();
        String block = document.split("```java\n")[1].split("```")[0];
        for (String line : block.split("\n")) {
            if (line.endsWith(";")) {
                written.add(withoutNames(line.trim()));
            }
        }
        c.due("members that the document writes", written.size(), 22);
        TreeSet<String> seen = membersSeen();
        c.isTrue("seen from outside are " + seen + ", written are " + written, seen.equals(written));
        headings(document, written);
        c.isTrue("public and final", Modifier.isPublic(FACE.getModifiers()) && Modifier.isFinal(FACE.getModifiers()));
        c.isTrue("no package", FACE.getPackageName().isEmpty());
        c.isTrue("no other class behind it", FACE.getSuperclass() == Object.class && FACE.getInterfaces().length == 0);
        c.due("NONE", LeasedReferences.NONE, -1);
        c.due("STALE", LeasedReferences.STALE, -2);
        c.end();
    }

    /** Each promise tells its signature once more. */
    private static void headings(String document, TreeSet<String> written) {
        int promises = 0;
        for (String line : document.split("\n")) {
            if (line.startsWith("`") && !line.startsWith("```")) {
                promises++;
                String signature = "public " + line.substring(1, line.indexOf('`', 1)) + ";";
                c.isTrue(signature + " is of the face", written.contains(withoutNames(signature)));
            }
        }
        c.due("promises with a signature", promises, 20);
    }

    /** Names of parameters are not part of the face. */
    private static String withoutNames(String member) {
        return member.replaceAll("int \\w+(?=[,)])", "int");
    }

    private static TreeSet<String> membersSeen() throws ReflectiveOperationException {
        TreeSet<String> seen = new TreeSet<>();
        for (Field field : FACE.getDeclaredFields()) {
            if (!Modifier.isPrivate(field.getModifiers())) {
                boolean constant = Modifier.isStatic(field.getModifiers()) && Modifier.isFinal(field.getModifiers());
                String value = constant ? " = " + field.getInt(null) : "";
                seen.add(Modifier.toString(field.getModifiers()) + " " + field.getType() + " " + field.getName() + value + ";");
            }
        }
        for (Constructor<?> constructor : FACE.getDeclaredConstructors()) {
            add(seen, constructor, FACE.getSimpleName());
        }
        for (Method method : FACE.getDeclaredMethods()) {
            add(seen, method, method.getReturnType() + " " + method.getName());
        }
        return seen;
    }

    private static void add(TreeSet<String> seen, Executable member, String name) {
        if (!Modifier.isPrivate(member.getModifiers()) && !member.isSynthetic()) {
            StringJoiner parameters = new StringJoiner(", ", "(", ");");
            for (Class<?> type : member.getParameterTypes()) {
                parameters.add(type.getTypeName());
            }
            seen.add((Modifier.toString(member.getModifiers()) + " " + name).trim() + parameters);
            c.due(member + " throws nothing", member.getExceptionTypes().length, 0);
        }
    }
}
