/** Promises 11, 12 and 13: tick, collect, crash. */
public final class TimeTest {
    private static final Checks c = new Checks();

    public static void main(String[] args) {
        tickRange();
        tickRenews();
        tickRenewsPending();
        tickOrder();
        tickResends();
        tickFailsCall();
        collectRoots();
        collectFields();
        collectListings();
        collectSendsCleans();
        collectRefused();
        crash();
        c.end();
    }

    private static void tickRange() {
        c.promise(11, "tick");
        LeasedReferences x = Scenes.known();
        String before = Look.at(x);
        int[] odd = {0, 13, -1, Integer.MIN_VALUE, Integer.MAX_VALUE};
        for (int n : odd) {
            c.due("tick " + n, x.tick(n), false);
        }
        c.isTrue("changes nothing", before.equals(Look.at(x)));
        c.due("tick 1", x.tick(1), true);
        c.due("grows by 1", x.listing(0, 0, 1), 23);
        c.due("tick 12", x.tick(12), true);
        c.due("grows by 12", x.listing(0, 0, 1), 11);
    }

    private static void tickRenews() {
        c.promise(11, "tick sends DIRTYs");
        LeasedReferences x = Scenes.known();
        x.tick(5);
        c.due("at 5", x.flight(), 0);
        x.tick(1);
        c.due("at 6", x.flight(), 1);
        c.due("DIRTY", x.message(0, 0), Kind.DIRTY);
        c.due("from", x.message(0, 1), 1);
        c.due("to", x.message(0, 2), 0);
        c.due("serial", x.message(0, 3), 0);
        c.due("number", x.message(0, 4), 2);
        c.due("the clock", x.message(0, 5), 6);
        x.tick(12);
        c.due("at 18", x.flight(), 3);
        c.due("12", x.message(1, 5), 12);
        c.due("18", x.message(2, 5), 18);
        x.tick(5);
        x.tick(1);
        c.due("none at 24, where it is STALE", x.flight(), 3);
        c.due("STALE", x.slot(1, 0, 2), 2);
        x.tick(12);
        c.due("none later", x.flight(), 3);
    }

    private static void tickRenewsPending() {
        c.promise(11, "tick sends DIRTYs for PENDING surrogates, lost ones too");
        LeasedReferences x = new LeasedReferences();
        x.make(0, 0);
        x.pass(0, 0, 1, 0);
        x.deliver(0);
        Scenes.fillFlight(x);
        x.tick(6);
        Scenes.loseAll(x);
        x.tick(5);
        c.due("SENT was 5 ago", x.flight(), 0);
        x.tick(1);
        c.due("and now 6", x.flight(), 1);
        c.due("a lost one used up its number", x.message(0, 4), 3);
        x.deliver(0);
        c.due("FIRST is as it was", x.deliver(0), 1);
        c.due("GOOD", x.slot(1, 0, 2), 1);
        c.due("expiry", x.slot(1, 0, 3), 36);
    }

    private static void tickOrder() {
        c.promise(11, "the order in which tick sends");
        LeasedReferences x = new LeasedReferences();
        x.make(3, 0);
        x.make(3, 1);
        x.make(2, 0);
        x.pass(3, 0, 2, 1);
        x.pass(3, 1, 2, 2);
        x.pass(2, 0, 3, 2);
        x.pass(3, 0, 0, 0);
        Scenes.deliverOldest(x, 16);
        c.due("nothing flies", x.flight(), 0);
        x.tick(3);
        x.call(2, 1, 1);
        x.call(0, 0, 1);
        Scenes.loseAll(x);
        x.tick(3);
        int[] kinds = {Kind.DIRTY, Kind.CALL, Kind.DIRTY, Kind.DIRTY, Kind.CALL, Kind.DIRTY};
        int[] senders = {0, 0, 2, 2, 2, 3};
        int[] serials = {0, 0, 0, 1, 0, 2};
        c.due("six", x.flight(), kinds.length);
        for (int k = 0; k < kinds.length; k++) {
            c.due("kind at " + k, x.message(k, 0), kinds[k]);
            c.due("sender at " + k, x.message(k, 1), senders[k]);
            c.due("serial at " + k, x.message(k, 3), serials[k]);
        }
    }

    private static void tickResends() {
        c.promise(11, "tick sends a CALL again");
        LeasedReferences x = Scenes.known();
        x.tick(1);
        x.call(1, 0, 8);
        x.lose(0);
        x.tick(2);
        c.due("2 ago", x.flight(), 0);
        x.tick(1);
        c.due("3 ago", x.flight(), 1);
        c.due("CALL", x.message(0, 0), Kind.CALL);
        c.due("from", x.message(0, 1), 1);
        c.due("to", x.message(0, 2), 0);
        c.due("serial", x.message(0, 3), 0);
        c.due("number", x.message(0, 4), 1);
        c.due("amount", x.message(0, 5), 8);
        x.tick(1);
        c.due("1 ago", x.flight(), 1);
        x.tick(2);
        c.due("3 ago, after the DIRTY", x.message(2, 0), Kind.CALL);
        x.deliver(0);
        x.deliver(2);
        c.due("DONE", x.outcome(1, 0), 2);
        Scenes.loseAll(x);
        x.tick(3);
        c.due("no more", x.flight(), 0);

        // a call whose surrogate went STALE and is PENDING again goes on
        x = Scenes.known();
        Scenes.quietTicks(x, 23);
        x.call(1, 0, 8);
        x.lose(0);
        x.tick(1);
        x.pass(0, 0, 1, 1);
        x.deliver(0);
        x.lose(0);
        x.tick(2);
        c.due("PENDING", x.slot(1, 0, 2), 0);
        c.due("WAITING", x.outcome(1, 0), 1);
        c.due("CALL", x.message(0, 0), Kind.CALL);
    }

    private static void tickFailsCall() {
        c.promise(11, "tick lets a call fail when its surrogate is STALE");
        LeasedReferences x = Scenes.known();
        Scenes.quietTicks(x, 22);
        x.call(1, 0, 8);
        x.lose(0);
        x.drop(1, 0);
        x.tick(2);
        c.due("STALE", x.slot(1, 0, 2), 2);
        c.due("2 ago", x.outcome(1, 0), 1);
        c.due("kept while it waits", x.collect(1), 0);
        x.tick(1);
        c.due("3 ago", x.outcome(1, 0), 3);
        c.due("nothing sent", x.flight(), 0);
        c.due("not kept any more", x.collect(1), 1);
        c.due("no RESULT", x.outcome(1, 2), 0);
    }

    private static void collectRoots() {
        c.promise(12, "collect keeps what roots refer to");
        LeasedReferences x = new LeasedReferences();
        c.due("nothing there", x.collect(0), 0);
        x.make(0, 0);
        x.make(0, 1);
        x.make(0, 2);
        x.make(1, 0);
        x.drop(1, 0);
        c.due("all kept", x.collect(0), 0);
        x.drop(0, 1);
        c.due("one freed", x.collect(0), 1);
        c.due("slot 0", x.slot(0, 0, 0), 1);
        c.due("slot 1", x.slot(0, 1, 0), 0);
        c.due("slot 2", x.slot(0, 2, 0), 1);
        c.due("empty ones do not count", x.collect(0), 0);
        c.due("other nodes are not touched", x.slot(1, 0, 0), 1);
    }

    private static void collectFields() {
        c.promise(12, "collect follows fields");
        for (int field = 0; field < 2; field++) {
            // a chain against the order of the slots: 7 -> 6 -> .. -> 0
            LeasedReferences x = new LeasedReferences();
            x.make(0, 0);
            for (int i = 1; i < 8; i++) {
                x.make(0, i % 2);
                x.link(0, i % 2, field, 1 - i % 2);
            }
            x.drop(0, 0);
            c.due("the head", x.root(0, 1), 7);
            c.due("all kept", x.collect(0), 0);
            x.fetch(0, 1, field, 1);
            c.due("the head is freed", x.collect(0), 1);
            c.due("slot 7", x.slot(0, 7, 0), 0);
            x.link(0, 1, field, -1);
            c.due("the rest of the chain", x.collect(0), 6);
            c.due("slot 6", x.slot(0, 6, 0), 1);
        }
        LeasedReferences x = new LeasedReferences();
        x.make(0, 0);
        x.make(0, 1);
        x.link(0, 0, 0, 1);
        x.link(0, 1, 0, 0);
        x.drop(0, 0);
        x.drop(0, 1);
        c.due("a ring that nobody reaches", x.collect(0), 2);

        x = Scenes.known();
        x.make(1, 1);
        x.link(1, 1, 1, 0);
        x.drop(1, 0);
        c.due("a surrogate in a field is kept", x.collect(1), 0);
        x.drop(1, 1);
        c.due("both go", x.collect(1), 2);
    }

    private static void collectListings() {
        c.promise(12, "collect keeps what is listed");
        LeasedReferences x = Scenes.known();
        x.make(0, 1);
        x.link(0, 0, 0, 1);
        x.drop(0, 0);
        x.drop(0, 1);
        c.due("the listed one and its field", x.collect(0), 0);
        x.crash(1);
        Scenes.quietTicks(x, 23);
        c.due("to the last", x.collect(0), 0);
        Scenes.quietTicks(x, 1);
        c.due("and no longer", x.collect(0), 2);
        c.due("slots", x.slot(0, 0, 0) + x.slot(0, 1, 0), 0);
        c.due("objects send no CLEAN", x.flight(), 0);
    }

    private static void collectSendsCleans() {
        c.promise(12, "collect sends CLEANs");
        LeasedReferences x = new LeasedReferences();
        x.make(0, 0);
        x.make(2, 0);
        x.pass(0, 0, 1, 0);
        x.pass(2, 0, 1, 1);
        Scenes.deliverOldest(x, 8);
        x.make(1, 2);
        for (int root = 0; root < 3; root++) {
            x.drop(1, root);
        }
        c.due("three", x.collect(1), 3);
        c.due("two CLEANs", x.flight(), 2);
        for (int k = 0; k < 2; k++) {
            c.due("CLEAN", x.message(k, 0), Kind.CLEAN);
            c.due("from", x.message(k, 1), 1);
            c.due("to", x.message(k, 2), 2 * k);
            c.due("serial", x.message(k, 3), k);
            c.due("number", x.message(k, 4), 3 + k);
            c.due("EXTRA", x.message(k, 5), 0);
        }

        x = Scenes.known();
        x.drop(1, 0);
        Scenes.quietTicks(x, 24);
        c.due("a STALE one", x.collect(1), 1);
        c.due("sends CLEAN, too", x.message(0, 0), Kind.CLEAN);

        x = Scenes.known();
        x.pass(0, 0, 1, 1);
        Scenes.fillFlight(x);
        x.drop(1, 0);
        c.due("with 32 in flight", x.collect(1), 1);
        x.deliver(0);
        c.due("the lost CLEAN used up its number", x.message(31, 4), 3);
    }

    private static void collectRefused() {
        c.promise(12, "collect refused");
        LeasedReferences x = new LeasedReferences();
        x.make(0, 0);
        x.drop(0, 0);
        x.crash(0);
        c.due("crashed", x.collect(0), -1);
        c.due("it keeps all", x.slot(0, 0, 0), 1);
        c.due("node -1", x.collect(-1), -1);
        c.due("node 4", x.collect(4), -1);
    }

    private static void crash() {
        c.promise(13, "crash");
        LeasedReferences x = Scenes.known();
        c.due("node -1", x.crash(-1), false);
        c.due("node 4", x.crash(4), false);
        x.call(1, 0, 3);
        x.pass(1, 0, 2, 0);
        c.due("node 1", x.crash(1), true);
        c.due("again", x.crash(1), false);
        c.due("it keeps its slot", x.slot(1, 0, 0), 2);
        c.due("its root", x.root(1, 0), 0);
        c.due("its pin", x.pins(1), 1);
        c.due("what it sent flies on", x.flight(), 2);
        x.deliver(0);
        c.due("ANSWER to it is dropped", x.deliver(1), 0);
        c.due("it waits for ever", x.outcome(1, 0), 1);
        x.deliver(0);
        Scenes.deliverOldest(x, 2);
        c.due("TAKEN to it is dropped", x.deliver(0), 0);
        c.due("its pin", x.pins(1), 1);
        x.tick(12);
        int fromIt = 0;
        for (int k = 0; k < x.flight(); k++) {
            fromIt += x.message(k, 1) == 1 ? 1 : 0;
        }
        c.due("it sends nothing", fromIt, 0);
        c.due("the others do", x.flight(), 2);
        c.due("the others work", x.crash(0), true);
        c.due("and tick goes on", x.tick(12), true);
    }
}
