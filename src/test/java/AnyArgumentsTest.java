import java.lang.reflect.InvocationTargetException;
import java.lang.reflect.Method;
import java.lang.reflect.Modifier;
import java.util.Arrays;
import java.util.List;
import java.util.function.Supplier;

/**
 * LANGUAGE.md, rules 7 and 13: no call throws, for any arguments in any state, and the same calls give the same
 * answers. Each method of the face is asked with all its arguments at and around each boundary of the document.
 */
public final class AnyArgumentsTest {
    private static final int[] FEW = {Integer.MIN_VALUE, -2, -1, 0, 1, 2, 3, 4, Integer.MAX_VALUE};
    private static final int[] MANY = {
        Integer.MIN_VALUE, -3, -2, -1, 0, 1, 2, 3, 4, 5, 6, 7, 8, 9, 11, 12, 13, 30, 31, 32, 33, Integer.MAX_VALUE,
    };
    /** What is left of 512 calls behind the scene. */
    private static final int BATCH = 400;
    private static final Checks c = new Checks();

    private final Supplier<LeasedReferences> scene;
    private LeasedReferences first;
    private LeasedReferences second;
    private int asked = BATCH;

    private AnyArgumentsTest(Supplier<LeasedReferences> scene) {
        this.scene = scene;
    }

    public static void main(String[] args) throws IllegalAccessException {
        c.promise(8, "any arguments in any state");
        List<Supplier<LeasedReferences>> scenes = List.of(LeasedReferences::new, Scenes::busy, Scenes::crowded,
                Scenes::stale, AnyArgumentsTest::allCrashed);
        for (Supplier<LeasedReferences> scene : scenes) {
            AnyArgumentsTest test = new AnyArgumentsTest(scene);
            for (Method method : LeasedReferences.class.getDeclaredMethods()) {
                if (Modifier.isPublic(method.getModifiers())) {
                    test.askAll(method, new Object[method.getParameterCount()], 0);
                }
            }
        }
        c.end();
    }

    private static LeasedReferences allCrashed() {
        LeasedReferences x = Scenes.busy();
        for (int node = 0; node < 3; node++) {
            x.crash(node);
        }
        return x;
    }

    private void askAll(Method method, Object[] arguments, int set) throws IllegalAccessException {
        if (set == arguments.length) {
            ask(method, arguments);
            return;
        }
        for (int value : arguments.length > 2 ? FEW : MANY) {
            arguments[set] = value;
            askAll(method, arguments, set + 1);
        }
    }

    private void ask(Method method, Object[] arguments) throws IllegalAccessException {
        if (asked == BATCH) {
            first = scene.get();
            second = scene.get();
            asked = 0;
        }
        asked++;
        String call = method.getName() + Arrays.toString(arguments);
        try {
            Object answer = method.invoke(first, arguments);
            c.isTrue(call + " answers the same", answer.equals(method.invoke(second, arguments)));
        } catch (InvocationTargetException thrown) {
            c.isTrue(call + " threw " + thrown.getCause(), false);
        }
    }
}
