import java.io.IOException;
import java.lang.reflect.Method;
import java.lang.reflect.Modifier;
import java.nio.file.DirectoryStream;
import java.nio.file.Files;
import java.nio.file.Path;
import java.util.TreeSet;
import java.util.regex.Matcher;
import java.util.regex.Pattern;

/** README.md holds for the class as it stands: its examples are run, and its tables must be whole. */
public final class ReadmeTest {
    private static final Path README = Path.of("README.md");
    private static final Path TESTS = Path.of("src/test/java");
    private static final String MADE = "LeasedReferences x = new LeasedReferences();";
    private static final Pattern CALL = Pattern.compile("x\\.(\\w+)\\(([-\\d, ]*)\\); *// (-?\\d+|true|false)(:.*)?");
    private static final Checks c = new Checks();

    private LeasedReferences x;

    public static void main(String[] args) throws IOException, ReflectiveOperationException {
        c.promise(1, "and all the others: README.md");
        String readme = Files.readString(README);
        examples(readme);
        c.isTrue("the calls told are those of the face", told(readme, "`(\\w+)\\([\\w, ]*\\)`").equals(face()));
        c.isTrue("the tests told are those that are there", told(readme, "`(\\w+Test)`").equals(tests()));
        constants(readme);
        c.end();
    }

    private static void examples(String readme) throws ReflectiveOperationException {
        Matcher block = Pattern.compile("```java\n(.*?)```", Pattern.DOTALL).matcher(readme);
        int examples = 0;
        while (block.find()) {
            examples++;
            ReadmeTest example = new ReadmeTest();
            for (String line : block.group(1).split("\n")) {
                example.run(line);
            }
        }
        c.due("examples", examples, 3);
    }

    private void run(String line) throws ReflectiveOperationException {
        Matcher call = CALL.matcher(line);
        boolean isCall = call.matches();
        c.isTrue("a line of an example is a call with its answer: " + line, isCall || line.equals(MADE));
        if (line.equals(MADE)) {
            x = new LeasedReferences();
        } else if (isCall) {
            String answer = String.valueOf(ask(call.group(1), call.group(2)));
            c.isTrue(line + " (it answers " + answer + ")", answer.equals(call.group(3)));
        }
    }

    private Object ask(String name, String arguments) throws ReflectiveOperationException {
        String[] texts = arguments.isEmpty() ? new String[0] : arguments.split(", *");
        Class<?>[] types = new Class<?>[texts.length];
        Object[] values = new Object[texts.length];
        for (int i = 0; i < texts.length; i++) {
            types[i] = int.class;
            values[i] = Integer.valueOf(texts[i]);
        }
        return LeasedReferences.class.getMethod(name, types).invoke(x, values);
    }

    /** What stands first in the rows of a table, if it looks so. */
    private static TreeSet<String> told(String readme, String looks) {
        TreeSet<String> told = new TreeSet<>();
        Matcher row = Pattern.compile("(?m)^\\| " + looks + " \\|").matcher(readme);
        while (row.find()) {
            told.add(row.group(1));
        }
        return told;
    }

    private static TreeSet<String> face() {
        TreeSet<String> face = new TreeSet<>();
        for (Method method : LeasedReferences.class.getDeclaredMethods()) {
            if (Modifier.isPublic(method.getModifiers())) {
                face.add(method.getName());
            }
        }
        return face;
    }

    private static TreeSet<String> tests() throws IOException {
        TreeSet<String> tests = new TreeSet<>();
        try (DirectoryStream<Path> files = Files.newDirectoryStream(TESTS, "*Test.java")) {
            for (Path file : files) {
                tests.add(file.getFileName().toString().replace(".java", ""));
            }
        }
        return tests;
    }

    private static void constants(String readme) {
        c.isTrue("NONE is told", readme.contains("`NONE` (" + LeasedReferences.NONE + ")"));
        c.isTrue("STALE is told", readme.contains("`STALE` (" + LeasedReferences.STALE + ")"));
        c.isTrue("how to run the tests is told", readme.contains("\n.ci/run\n") && Files.isExecutable(Path.of(".ci/run")));
    }
}
