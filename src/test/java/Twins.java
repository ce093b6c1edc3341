import java.util.function.Supplier;
import java.util.function.ToIntFunction;

/**
 * Two objects that had the same calls. One of them then has a call that must change nothing; whatever is
 * done to both after that must look alike, so that also a change of what can't be seen at once (a number
 * used up, the time of the latest sending, ..) is found. Objects are made anew for each way to go on.
 */
final class Twins {
    private Twins() {
    }

    /** A refused call: its answer, and that it changes nothing. */
    static void refused(Checks c, String call, Supplier<LeasedReferences> scene, ToIntFunction<LeasedReferences> ask,
            int want) {
        c.due(call, ask.applyAsInt(scene.get()), want);
        c.isTrue(call + " changes nothing", alike(scene, ask, x -> 0));
    }

    static void refused(Checks c, String call, Supplier<LeasedReferences> scene, Yes ask) {
        refused(c, call, scene, (ToIntFunction<LeasedReferences>) x -> ask.of(x) ? 1 : 0, 0);
    }

    /** A call that answers true or false. */
    interface Yes {
        boolean of(LeasedReferences x);
    }

    /** The message at place k is dropped: that leaves what losing it would have left. */
    static void dropped(Checks c, String what, Supplier<LeasedReferences> scene, int k) {
        c.due(what + ": deliver(" + k + ")", scene.get().deliver(k), 0);
        c.isTrue(what + ": changes nothing else", alike(scene, x -> x.deliver(k), x -> x.lose(k) ? 1 : 0));
    }

    /** Whether two ways leave the same. */
    static boolean alike(Supplier<LeasedReferences> scene, ToIntFunction<LeasedReferences> one,
            ToIntFunction<LeasedReferences> other) {
        boolean alike = true;
        for (int way = 0; way < 4; way++) {
            LeasedReferences first = scene.get();
            LeasedReferences second = scene.get();
            one.applyAsInt(first);
            other.applyAsInt(second);
            alike &= goOn(first, way).equals(goOn(second, way));
        }
        return alike;
    }

    private static String goOn(LeasedReferences x, int way) {
        switch (way) {
            case 0:
                return Look.at(x);
            case 1:
                return timeGoesOn(x);
            case 2:
                return nodesGoOn(x);
            default:
                return messagesCome(x);
        }
    }

    private static String timeGoesOn(LeasedReferences x) {
        StringBuilder seen = new StringBuilder();
        Scenes.loseAll(x);
        for (int i = 0; i < 25; i++) {
            x.tick(1);
            seen.append("\ntick ").append(i);
            while (x.flight() > 0) {
                seen.append(" (");
                for (int which = 0; which <= 5; which++) {
                    seen.append(x.message(0, which)).append(' ');
                }
                seen.append(')');
                x.lose(0);
            }
        }
        return seen.toString();
    }

    private static String nodesGoOn(LeasedReferences x) {
        StringBuilder seen = new StringBuilder();
        for (int k = 0; k < 16; k++) {
            x.lose(0);
        }
        for (int node = 0; node < 4; node++) {
            int next = (node + 1) % 4;
            seen.append("\n").append(x.call(node, 0, 9)).append(' ').append(x.call(node, 1, 9));
            seen.append(' ').append(x.pass(node, 0, next, 0)).append(' ').append(x.pass(node, 1, next, 1));
            seen.append(' ').append(x.make(node, 2)).append(' ').append(x.link(node, 2, 0, 0));
            seen.append(' ').append(x.fetch(node, 2, 0, 1)).append(' ').append(x.drop(node, 0));
            seen.append(' ').append(x.collect(node));
        }
        return seen.append(messagesCome(x)).toString();
    }

    private static String messagesCome(LeasedReferences x) {
        StringBuilder seen = new StringBuilder();
        for (int i = 0; i < 60; i++) {
            seen.append(" number ").append(x.message(0, 4));
            int answer = x.deliver(0);
            seen.append(": ").append(answer);
            if (answer == LeasedReferences.NONE) {
                break;
            }
        }
        return seen.append(Look.at(x)).toString();
    }
}
