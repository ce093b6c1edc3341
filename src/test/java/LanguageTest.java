import java.io.IOException;
import java.lang.management.ManagementFactory;
import java.lang.reflect.Executable;
import java.lang.reflect.Field;
import java.lang.reflect.Method;
import java.lang.reflect.Modifier;
import java.nio.file.Files;
import java.nio.file.Path;
import java.util.ArrayList;
import java.util.Arrays;
import java.util.Collections;
import java.util.Iterator;
import java.util.List;
import java.util.Set;
import java.util.TreeSet;
import java.util.function.Consumer;
import java.util.regex.Matcher;
import java.util.regex.Pattern;

/** The rules of LANGUAGE.md that a machine can see, each by its number. */
public final class LanguageTest {
    private static final Path PROGRAM = Path.of("src/main/java/LeasedReferences.java");
    private static final Class<?> HOST = LeasedReferences.class;
    private static final Class<?>[] OWN = HOST.getNestMembers();
    private static final Set<Class<?>> LIBRARY = Set.of(String.class, StringBuilder.class, Integer.class,
            ArrayList.class, List.class, Iterator.class, Iterable.class, Comparable.class, Object.class);
    private static final Set<Class<?>> CONSTANTS = Set.of(int.class, long.class, boolean.class, char.class, String.class,
            int[].class, long[].class, char[].class, byte[].class);
    /** Rule 11 says 'some' sixty lines, twelve classes, twenty fields: one tenth more is still some. */
    private static final int LINES = 66;
    private static final int CLASSES = 13;
    private static final int FIELDS = 22;
    /** Of the room that all calls of one run live in: 7.3 million fields and elements, of four bytes each. */
    private static final long ROOM = 4 * 7_300_000L;
    private static final Checks c = new Checks();

    public static void main(String[] args) throws IOException {
        String source = Files.readString(PROGRAM);
        String code = withoutCommentsAndTexts(source);
        members();
        classesInside(code);
        types(source);
        library(code);
        staticFields(code);
        words(code);
        sizes(code);
        whatARunMakes();
        c.end();
    }

    private static void rule(int number) {
        c.promise(1, "and all the others: LANGUAGE.md, rule " + number);
    }

    private static void members() {
        rule(1);
        Set<String> face = new TreeSet<>();
        for (Method method : HOST.getDeclaredMethods()) {
            if (Modifier.isPublic(method.getModifiers())) {
                face.add(method.getName());
            }
        }
        for (Class<?> own : OWN) {
            c.isTrue(own + " is not public", own == HOST || !Modifier.isPublic(own.getModifiers()));
            c.isTrue(own + " is not protected", !Modifier.isProtected(own.getModifiers()));
            for (Method method : own.getDeclaredMethods()) {
                c.isTrue(method + " bears the name of a public one",
                        !Modifier.isPrivate(method.getModifiers()) || !face.contains(method.getName()));
            }
        }
    }

    private static void classesInside(String code) {
        rule(2);
        for (Class<?> own : OWN) {
            c.isTrue(own + " is static", own == HOST || own.isSynthetic() || Modifier.isStatic(own.getModifiers()));
            c.isTrue(own + " has a name", own.isSynthetic() || !own.isAnonymousClass() && !own.isLocalClass());
            for (Method method : own.getDeclaredMethods()) {
                c.isTrue(method + " is no lambda", !method.getName().startsWith("lambda$"));
            }
            for (Field field : own.getDeclaredFields()) {
                boolean free = !own.isEnum() || field.isSynthetic() || field.isEnumConstant();
                Class<?> type = field.getType();
                c.isTrue(field + " is of a type that an enum may have", free || type == int.class || type == long.class
                        || type == boolean.class || type == String.class);
            }
        }
        c.isTrue("no method reference", !code.contains("::"));
    }

    private static void types(String source) {
        rule(3);
        for (Class<?> own : OWN) {
            for (Field field : own.getDeclaredFields()) {
                c.isTrue("the type of " + field, isAllowed(field.getType()));
            }
            for (Executable member : executables(own)) {
                for (Class<?> type : member.getParameterTypes()) {
                    c.isTrue("the types of " + member, isAllowed(type));
                }
            }
            for (Method method : own.getDeclaredMethods()) {
                c.isTrue("the type of " + method, isAllowed(method.getReturnType()));
            }
        }
        c.isTrue("characters 0 to 255 alone", source.chars().allMatch(each -> each <= 255));
    }

    private static boolean isAllowed(Class<?> type) {
        if (!type.isArray()) {
            return type.isPrimitive() || isOwn(type) || LIBRARY.contains(type);
        }
        Class<?> element = type.getComponentType();
        if (element.isArray()) {
            return element.getComponentType().isPrimitive() && element.getComponentType() != boolean.class;
        }
        return element.isPrimitive() || isOwn(element);
    }

    private static boolean isOwn(Class<?> type) {
        return Arrays.asList(OWN).contains(type);
    }

    private static List<Executable> executables(Class<?> own) {
        List<Executable> all = new ArrayList<>();
        Collections.addAll(all, own.getDeclaredConstructors());
        Collections.addAll(all, own.getDeclaredMethods());
        return all;
    }

    private static void library(String code) {
        rule(4);
        none(code, "\\bpackage\\b");
        none(code, "\\bimport\\s+(?!java\\.util\\.(Arrays|ArrayList|List|Iterator|\\*)\\s*;)");
        none(code, "\\bjavax?\\.(?!util\\.(Arrays|ArrayList|List|Iterator|\\*))");
        none(code, "\\bSystem\\s*\\.(?!\\s*arraycopy\\b)");
        none(code, "\\bArrays\\s*\\.(?!\\s*(copyOf|copyOfRange|fill)\\b)");
        none(code, "\\b(Math|Integer|Long)\\s*\\.\\s*\\w+Exact\\b");
    }

    private static void staticFields(String code) {
        rule(5);
        for (Class<?> own : OWN) {
            for (Field field : own.getDeclaredFields()) {
                if (Modifier.isStatic(field.getModifiers()) && !field.isSynthetic()) {
                    Class<?> type = field.getType();
                    boolean ofEnum = type.isEnum() || type.isArray() && type.getComponentType().isEnum();
                    c.isTrue(field + " is final", Modifier.isFinal(field.getModifiers()));
                    c.isTrue(field + " is a constant", CONSTANTS.contains(type) || ofEnum);
                }
            }
        }
        none(code, "\\bstatic\\s*\\{");
    }

    private static void words(String code) {
        rule(6);
        none(code, "\\b(throws?|try|catch|finally|synchronized|assert)\\b");
        rule(13);
        none(code, "\\b(Thread|Random|ThreadLocalRandom|Process|ProcessBuilder|Runtime|File|Files|Socket|Scanner)\\b");
        none(code, "\\bMath\\s*\\.\\s*random\\b");
        none(code, "\\b(native|volatile|transient|strictfp)\\b");
    }

    private static void none(String code, String ruledOut) {
        Matcher found = Pattern.compile(ruledOut).matcher(code);
        c.isTrue("nothing like " + ruledOut, !found.find());
    }

    private static void sizes(String code) {
        rule(11);
        int classes = 0;
        for (Class<?> own : OWN) {
            classes += own == HOST || own.isSynthetic() ? 0 : 1;
            int fields = 0;
            for (Field field : own.getDeclaredFields()) {
                fields += Modifier.isStatic(field.getModifiers()) ? 0 : 1;
            }
            c.isTrue(own + " has " + fields + " fields", fields <= FIELDS);
            for (Executable member : executables(own)) {
                c.isTrue(member + " has seven parameters at most", member.getParameterCount() <= 7);
            }
        }
        c.isTrue(classes + " classes inside", classes <= CLASSES);
        methodLengths(code);
    }

    /** A method's body is a brace behind a parenthesis that no keyword opens, up to the brace that closes it. */
    private static void methodLengths(String code) {
        Matcher head = Pattern.compile("(\\brecord\\s+)?\\b(\\w+)\\s*\\([^(){};]*\\)\\s*\\{").matcher(code);
        int methods = 0;
        while (head.find()) {
            if (head.group(1) == null && !head.group(2).matches("if|for|while|switch")) {
                methods++;
                int end = closing(code, head.end());
                long lines = code.substring(head.start(), end).lines().count();
                c.isTrue(head.group(2) + " has " + lines + " lines", lines <= LINES);
            }
        }
        c.isTrue(methods + " methods, all of the face among them", methods >= HOST.getMethods().length - 9);
    }

    private static int closing(String code, int from) {
        int open = 1;
        int at = from;
        while (at < code.length() && open > 0) {
            char each = code.charAt(at);
            open += each == '{' ? 1 : each == '}' ? -1 : 0;
            at++;
        }
        return at;
    }

    private static String withoutCommentsAndTexts(String source) {
        Matcher piece = Pattern.compile("/\\*(?s:.*?)\\*/|//[^\n]*|\"(?:[^\"\\\\\n]|\\\\.)*\"|'(?:[^'\\\\\n]|\\\\.)+'")
                .matcher(source);
        // its lines stay, so that methods keep their length
        return piece.replaceAll(found -> found.group().replaceAll("[^\n]", " "));
    }

    /** Which call is the dearest is not known, so each is asked for the rest of a run. */
    private static void whatARunMakes() {
        rule(12);
        List<Consumer<LeasedReferences>> calls = List.of(x -> x.make(2, 0), x -> x.link(0, 0, 0, 1),
                x -> x.fetch(0, 0, 0, 1), x -> x.drop(0, 1), x -> x.pass(0, 0, 1, 0), x -> x.call(1, 0, 1),
                x -> x.deliver(0), x -> x.lose(0), x -> x.copy(0), x -> x.tick(12), x -> x.collect(0), x -> x.crash(0),
                x -> x.flight(), x -> x.message(0, 0), x -> x.root(0, 0), x -> x.slot(0, 0, 0), x -> x.listing(0, 0, 1),
                x -> x.pins(0), x -> x.outcome(1, 0));
        for (Consumer<LeasedReferences> call : calls) {
            long before = made();
            LeasedReferences x = Scenes.crowded();
            for (int i = 0; i < 440; i++) {
                call.accept(x);
            }
            long bytes = made() - before;
            c.isTrue("call " + calls.indexOf(call) + " of the face makes " + bytes + " bytes", bytes <= ROOM);
        }
        long before = made();
        for (int i = 0; i < 512; i++) {
            c.due("a new one", new LeasedReferences().flight(), 0);
        }
        long bytes = made() - before;
        c.isTrue("512 new ones make " + bytes + " bytes", bytes <= ROOM);
    }

    private static long made() {
        return ((com.sun.management.ThreadMXBean) ManagementFactory.getThreadMXBean())
                .getThreadAllocatedBytes(Thread.currentThread().getId());
    }
}
