/** States from which several tests start. */
final class Scenes {
    private Scenes() {
    }

    /** Node 0 has object 0, and node 1 a GOOD surrogate for it, each at slot 0 and root 0; nothing flies. */
    static LeasedReferences known() {
        LeasedReferences x = flying(Kind.TAKEN);
        x.deliver(0);
        return x;
    }

    /** As known, but the surrogate is PENDING with FIRST 1 and owes pass 0, and its DIRTY flies at place 0. */
    static LeasedReferences pending() {
        return flying(Kind.DIRTY);
    }

    /** As known, but the clock is 24 and the surrogate STALE. */
    static LeasedReferences stale() {
        LeasedReferences x = known();
        quietTicks(x, 24);
        return x;
    }

    /** One message flies, of this kind, between nodes 0 and 1 about object 0; its receiver would not drop it. */
    static LeasedReferences flying(int kind) {
        LeasedReferences x = new LeasedReferences();
        x.make(0, 0);
        x.pass(0, 0, 1, 0);
        switch (kind) {
            case Kind.PASS:
                break;
            case Kind.DIRTY:
                deliverOldest(x, 1);
                break;
            case Kind.LISTED:
                deliverOldest(x, 2);
                break;
            case Kind.TAKEN:
                deliverOldest(x, 3);
                break;
            case Kind.GONE:
                x.drop(0, 0);
                ticks(x, 24);
                x.collect(0);
                deliverOldest(x, 2);
                break;
            default:
                deliverOldest(x, 4);
                flyingBetweenKnown(x, kind);
                break;
        }
        return x;
    }

    private static void flyingBetweenKnown(LeasedReferences x, int kind) {
        switch (kind) {
            case Kind.CLEAN:
                x.drop(1, 0);
                x.collect(1);
                break;
            case Kind.CALL:
                x.call(1, 0, 5);
                break;
            case Kind.ANSWER:
                x.call(1, 0, 5);
                x.deliver(0);
                break;
            default:
                x.drop(0, 0);
                quietTicks(x, 23);
                x.call(1, 0, 5);
                x.tick(1);
                x.collect(0);
                x.deliver(0);
                break;
        }
    }

    /** Who would get the message of {@link #flying}. */
    static int receiver(int kind) {
        boolean toOwner = kind == Kind.TAKEN || kind == Kind.DIRTY || kind == Kind.CLEAN || kind == Kind.CALL;
        return toOwner ? 0 : 1;
    }

    /**
     * Something of everything. Node 0: objects at roots 0 and 1, root 2 is nothing. Node 1: a GOOD surrogate at
     * root 0, an object at root 1, root 2 is nothing, its call WAITS. Node 2: surrogates at its roots, 0 PENDING,
     * 1 GOOD, 2 STALE; its call is DONE. Node 3 crashed, with objects at roots 0 and 1. Five messages fly:
     * a DIRTY, a CALL that was done already, its ANSWER, and two PASSes.
     */
    static LeasedReferences busy() {
        LeasedReferences x = new LeasedReferences();
        x.make(0, 0);
        x.make(0, 1);
        x.link(0, 0, 0, 1);
        x.pass(0, 1, 2, 2);
        deliverOldest(x, 4);
        quietTicks(x, 24);
        x.make(1, 1);
        x.pass(0, 0, 1, 0);
        deliverOldest(x, 4);
        x.pass(1, 1, 2, 1);
        deliverOldest(x, 4);
        x.call(2, 1, 6);
        deliverOldest(x, 2);
        x.pass(0, 0, 2, 0);
        x.deliver(0);
        x.tick(2);
        x.call(1, 0, 5);
        x.copy(1);
        x.deliver(1);
        x.make(3, 0);
        x.make(3, 1);
        x.crash(3);
        x.pass(2, 1, 0, 2);
        x.pass(1, 0, 3, 0);
        return x;
    }

    /** As known, but node 0 is full and has six pins, node 1's call WAITS, and 32 fly. */
    static LeasedReferences crowded() {
        LeasedReferences x = known();
        for (int i = 0; i < 7; i++) {
            x.make(0, 1);
        }
        for (int i = 0; i < 6; i++) {
            x.pass(0, 0, 2, 0);
        }
        x.call(1, 0, 3);
        fillFlight(x);
        return x;
    }

    static void deliverOldest(LeasedReferences x, int times) {
        for (int i = 0; i < times; i++) {
            x.deliver(0);
        }
    }

    static void loseAll(LeasedReferences x) {
        while (x.lose(0)) {
            continue;
        }
    }

    static void ticks(LeasedReferences x, int n) {
        for (int left = n; left > 0; left -= 12) {
            x.tick(Math.min(left, 12));
        }
    }

    /** Ticks and loses what flies. */
    static void quietTicks(LeasedReferences x, int n) {
        ticks(x, n);
        loseAll(x);
    }

    /** Copies the message at place 0 until so many fly. */
    static void fillFlight(LeasedReferences x, int flying) {
        for (int i = x.flight(); i < flying; i++) {
            x.copy(0);
        }
    }

    static void fillFlight(LeasedReferences x) {
        fillFlight(x, 32);
    }
}
