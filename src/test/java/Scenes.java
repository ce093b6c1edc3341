/** States from which several tests start. */
final class Scenes {
    private Scenes() {
    }

    /** Node 0 has object 0, and node 1 a GOOD surrogate for it, each at slot 0 and root 0; nothing flies. */
    static LeasedReferences known() {
        LeasedReferences x = new LeasedReferences();
        x.make(0, 0);
        x.pass(0, 0, 1, 0);
        deliverOldest(x, 4);
        return x;
    }

    static void deliverOldest(LeasedReferences x, int times) {
        for (int i = 0; i < times; i++) {
            x.deliver(0);
        }
    }

    static void loseAll(LeasedReferences x) {
        while (x.lose(0)) {
            continue;
        }
    }

    /** Ticks and loses whatever was sent meanwhile. */
    static void quietTicks(LeasedReferences x, int n) {
        for (int i = 0; i < n; i++) {
            x.tick(1);
            loseAll(x);
        }
    }

    /** Copies the message at place 0 until 32 fly. */
    static void fillFlight(LeasedReferences x) {
        while (x.copy(0)) {
            continue;
        }
    }
}
