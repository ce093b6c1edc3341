import java.io.IOException;
import java.lang.reflect.Field;
import java.lang.reflect.Method;
import java.lang.reflect.Modifier;
import java.nio.file.Files;
import java.nio.file.Path;
import java.util.Arrays;
import java.util.Set;
import java.util.TreeSet;
import java.util.regex.Matcher;
import java.util.regex.Pattern;

/** The public face of the document, and those rules of LANGUAGE.md that can be seen by a machine. */
public final class FaceTest {
    private static final String[] FACE = {
        "int make(int, int)", "boolean link(int, int, int, int)", "boolean fetch(int, int, int, int)",
        "boolean drop(int, int)", "int pass(int, int, int, int)", "int call(int, int, int)", "int deliver(int)",
        "boolean lose(int)", "boolean copy(int)", "boolean tick(int)", "int collect(int)", "boolean crash(int)",
        "int flight()", "int message(int, int)", "int root(int, int)", "int slot(int, int, int)",
        "int listing(int, int, int)", "int pins(int)", "int outcome(int, int)",
    };
    private static final String[] RULED_OUT = {
        "\\bthrow\\b", "\\btry\\b", "\\bcatch\\b", "\\bsynchronized\\b", "\\bassert\\b", "->", "::", "\\bstatic\\s*\\{",
        "\\bprotected\\b", "\\bpackage\\b", "\\bSystem\\.(?!arraycopy)", "\\bequals\\b|\\bhashCode\\b|\\btoString\\b",
        "\\bimport (?!java\\.util\\.Arrays;)", "\\bArrays\\.(?!fill\\()", "\\bMath\\.(?!max\\(|min\\()", "\\bwhile\\b",
        "\\bdo\\b", "\\binstanceof\\b", "\\bThread\\b", "\\bRandom\\b", "\\bnative\\b", "\\bvolatile\\b",
    };
    private static final int LONGEST_METHOD = 60;
    private static final Checks c = new Checks();

    public static void main(String[] args) throws IOException {
        c.promise(1, "the public face");
        methods();
        members();
        nested();
        source();
        methodsInSource();
        c.end();
    }

    private static void methods() {
        Set<String> want = new TreeSet<>(Arrays.asList(FACE));
        Set<String> got = new TreeSet<>();
        Set<String> names = new TreeSet<>();
        for (Method method : LeasedReferences.class.getDeclaredMethods()) {
            if (Modifier.isPublic(method.getModifiers())) {
                String parameters = Arrays.toString(method.getParameterTypes());
                got.add(method.getReturnType() + " " + method.getName() + "("
                        + parameters.substring(1, parameters.length() - 1) + ")");
                names.add(method.getName());
            }
        }
        c.isTrue("public methods are " + got, got.equals(want));
        for (Method method : LeasedReferences.class.getDeclaredMethods()) {
            int modifiers = method.getModifiers();
            c.isTrue(method + " is public or private", Modifier.isPublic(modifiers) || Modifier.isPrivate(modifiers));
            c.isTrue(method + " bears no public name",
                    Modifier.isPublic(modifiers) || !names.contains(method.getName()));
            c.isTrue(method + " has at most seven parameters", method.getParameterCount() <= 7);
        }
    }

    private static void members() {
        c.isTrue("public final", Modifier.isPublic(LeasedReferences.class.getModifiers())
                && Modifier.isFinal(LeasedReferences.class.getModifiers()));
        c.due("constructors", LeasedReferences.class.getDeclaredConstructors().length, 1);
        c.due("public constructors", LeasedReferences.class.getConstructors().length, 1);
        c.due("public constants", LeasedReferences.class.getFields().length, 2);
        for (Field field : LeasedReferences.class.getDeclaredFields()) {
            int modifiers = field.getModifiers();
            boolean constant = Modifier.isStatic(modifiers) && Modifier.isFinal(modifiers);
            c.isTrue(field + " is private, or a public constant",
                    Modifier.isPrivate(modifiers) || (Modifier.isPublic(modifiers) && constant));
            c.isTrue(field + " is final if static", constant || !Modifier.isStatic(modifiers));
        }
    }

    private static void nested() {
        Class<?>[] classes = LeasedReferences.class.getDeclaredClasses();
        c.isTrue("at most twelve classes", classes.length <= 12);
        for (Class<?> each : classes) {
            int modifiers = each.getModifiers();
            c.isTrue(each + " is static", Modifier.isStatic(modifiers));
            c.isTrue(each + " is not public", !Modifier.isPublic(modifiers) && !Modifier.isProtected(modifiers));
            c.isTrue(each + " has at most twenty fields", each.getDeclaredFields().length <= 20);
            for (Method method : each.getDeclaredMethods()) {
                c.isTrue(method + " has at most seven parameters", method.getParameterCount() <= 7);
                c.isTrue(method + " bears no public name",
                        Arrays.stream(FACE).noneMatch(face -> face.contains(" " + method.getName() + "(")));
            }
        }
    }

    private static void source() throws IOException {
        String text = Files.readString(Path.of("src/main/java/LeasedReferences.java"));
        String code = text.replaceAll("(?s)/\\*.*?\\*/", "").replaceAll("//[^\n]*", "");
        for (String rule : RULED_OUT) {
            c.isTrue("no " + rule, !Pattern.compile(rule).matcher(code).find());
        }
        c.isTrue("no text beyond character 255", text.chars().allMatch(each -> each <= 255));
    }

    /** By the indentation: a method ends with the brace that stands where it begins. */
    private static void methodsInSource() throws IOException {
        Pattern head = Pattern.compile("^( +)[\\w\\[\\] ]*\\b(\\w+)\\(.*\\) \\{$");
        String indent = "";
        String name = "";
        int lines = 0;
        for (String line : Files.readAllLines(Path.of("src/main/java/LeasedReferences.java"))) {
            Matcher match = head.matcher(line);
            boolean begins = name.isEmpty() && match.matches();
            if (begins) {
                indent = match.group(1);
                name = match.group(2);
                lines = 0;
            }
            lines++;
            // rows are made in constructors, whose names alone begin with a capital
            c.isTrue(name + " makes nothing", name.isEmpty() || Character.isUpperCase(name.charAt(0))
                    || !line.contains("new "));
            if (!name.isEmpty() && line.equals(indent + "}")) {
                c.isTrue(name + " is short", lines <= LONGEST_METHOD);
                name = "";
            }
        }
        c.isTrue("each method ends", name.isEmpty());
    }
}
