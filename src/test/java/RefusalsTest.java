import java.util.function.Supplier;

/**
 * "A call that answers NONE, STALE or false changes nothing. A node, root or field that is not there, or a node
 * that crashed, makes a call answer NONE or false." For each call of the face: each ground to refuse it, at both
 * ends of what is there; and for each, that nothing changed, also nothing that shows only later.
 */
public final class RefusalsTest {
    private static final int NONE = LeasedReferences.NONE;
    private static final int STALE = LeasedReferences.STALE;
    private static final int LEAST = Integer.MIN_VALUE;
    private static final int MOST = Integer.MAX_VALUE;
    private static final int[] NO_NODES = {LEAST, -1, 4, MOST};
    private static final int[] NO_ROOTS = {LEAST, -1, 3, MOST};
    private static final int[] NO_FIELDS = {LEAST, -1, 2, MOST};
    private static final int[] NO_SLOTS = {LEAST, -1, 8, MOST};
    /** Node 3 of the busy scene. */
    private static final int CRASHED = 3;
    private static final Supplier<LeasedReferences> BUSY = Scenes::busy;
    private static final Supplier<LeasedReferences> CROWDED = Scenes::crowded;
    private static final Checks c = new Checks();

    public static void main(String[] args) {
        c.sentence("A call that answers NONE, STALE or false changes nothing. A node, root or field that is not there, or a "
                + "node that crashed, makes a call answer NONE or false.");
        make();
        link();
        fetch();
        drop();
        pass();
        call();
        places();
        tick();
        collect();
        crash();
        looks();
        nodeLooks();
        passNotGood();
        callNotGood();
        whatIsThereIsNotRefused();
        c.end();
    }

    private static void make() {
        for (int none : NO_NODES) {
            Twins.refused(c, "make in node " + none, BUSY, x -> x.make(none, 0), NONE);
        }
        for (int none : NO_ROOTS) {
            Twins.refused(c, "make at root " + none, BUSY, x -> x.make(0, none), NONE);
        }
        Twins.refused(c, "make in a crashed node", BUSY, x -> x.make(CRASHED, 0), NONE);
        Twins.refused(c, "make with no slot empty", CROWDED, x -> x.make(0, 2), NONE);
    }

    private static void link() {
        for (int none : NO_NODES) {
            Twins.refused(c, "link in node " + none, BUSY, x -> x.link(none, 0, 0, 1));
        }
        for (int none : NO_ROOTS) {
            Twins.refused(c, "link of root " + none, BUSY, x -> x.link(0, none, 0, 1));
        }
        for (int none : NO_FIELDS) {
            Twins.refused(c, "link of field " + none, BUSY, x -> x.link(0, 0, none, 1));
        }
        int[] noFroms = {LEAST, -2, 3, MOST};
        for (int none : noFroms) {
            Twins.refused(c, "link from root " + none, BUSY, x -> x.link(0, 0, 0, none));
        }
        Twins.refused(c, "link in a crashed node", BUSY, x -> x.link(CRASHED, 0, 0, 1));
        Twins.refused(c, "link of a root that is nothing", BUSY, x -> x.link(0, 2, 0, 0));
        Twins.refused(c, "link of a GOOD surrogate", BUSY, x -> x.link(1, 0, 0, 1));
        Twins.refused(c, "link of a PENDING surrogate", BUSY, x -> x.link(2, 0, 0, 1));
        Twins.refused(c, "link of a STALE surrogate", BUSY, x -> x.link(2, 2, 0, -1));
    }

    private static void fetch() {
        for (int none : NO_NODES) {
            Twins.refused(c, "fetch in node " + none, BUSY, x -> x.fetch(none, 0, 0, 2));
        }
        for (int none : NO_ROOTS) {
            Twins.refused(c, "fetch from root " + none, BUSY, x -> x.fetch(0, none, 0, 2));
            Twins.refused(c, "fetch into root " + none, BUSY, x -> x.fetch(0, 0, 0, none));
        }
        for (int none : NO_FIELDS) {
            Twins.refused(c, "fetch of field " + none, BUSY, x -> x.fetch(0, 0, none, 2));
        }
        Twins.refused(c, "fetch in a crashed node", BUSY, x -> x.fetch(CRASHED, 0, 0, 1));
        Twins.refused(c, "fetch from a root that is nothing", BUSY, x -> x.fetch(0, 2, 0, 0));
        Twins.refused(c, "fetch from a GOOD surrogate", BUSY, x -> x.fetch(1, 0, 0, 1));
        Twins.refused(c, "fetch from a PENDING surrogate", BUSY, x -> x.fetch(2, 0, 0, 1));
        Twins.refused(c, "fetch from a STALE surrogate", BUSY, x -> x.fetch(2, 2, 0, 1));
    }

    private static void drop() {
        for (int none : NO_NODES) {
            Twins.refused(c, "drop in node " + none, BUSY, x -> x.drop(none, 0));
        }
        for (int none : NO_ROOTS) {
            Twins.refused(c, "drop of root " + none, BUSY, x -> x.drop(0, none));
        }
        Twins.refused(c, "drop in a crashed node", BUSY, x -> x.drop(CRASHED, 0));
    }

    private static void pass() {
        for (int none : NO_NODES) {
            Twins.refused(c, "pass from node " + none, BUSY, x -> x.pass(none, 0, 1, 1), NONE);
            Twins.refused(c, "pass to node " + none, BUSY, x -> x.pass(0, 0, none, 1), NONE);
        }
        for (int none : NO_ROOTS) {
            Twins.refused(c, "pass of root " + none, BUSY, x -> x.pass(0, none, 1, 1), NONE);
            Twins.refused(c, "pass into root " + none, BUSY, x -> x.pass(0, 0, 1, none), NONE);
        }
        Twins.refused(c, "pass from a crashed node", BUSY, x -> x.pass(CRASHED, 0, 1, 1), NONE);
        for (int node = 0; node < 3; node++) {
            int self = node;
            Twins.refused(c, "pass to itself, " + node, BUSY, x -> x.pass(self, 1, self, 0), NONE);
        }
        Twins.refused(c, "pass of a root that is nothing", BUSY, x -> x.pass(0, 2, 1, 1), NONE);
        Twins.refused(c, "pass with six pins", CROWDED, x -> x.pass(0, 0, 1, 1), NONE);
    }

    private static void passNotGood() {
        c.sentence(6, "else STALE when it refers to a surrogate that is not GOOD.");
        int[] notGood = {0, 2};
        for (int root : notGood) {
            Twins.refused(c, "pass of node 2's root " + root, BUSY, x -> x.pass(2, root, 1, 1), STALE);
            Twins.refused(c, "the same to a crashed node", BUSY, x -> x.pass(2, root, CRASHED, 1), STALE);
            Twins.refused(c, "the same to itself", BUSY, x -> x.pass(2, root, 2, 1), NONE);
            Twins.refused(c, "the same to no node", BUSY, x -> x.pass(2, root, 4, 1), NONE);
            Twins.refused(c, "the same into no root", BUSY, x -> x.pass(2, root, 1, 3), NONE);
        }
        Supplier<LeasedReferences> pinned = () -> {
            LeasedReferences x = Scenes.stale();
            x.make(1, 1);
            for (int i = 0; i < 6; i++) {
                x.pass(1, 1, 2, 0);
            }
            return x;
        };
        Twins.refused(c, "pass of a STALE one with six pins", pinned, x -> x.pass(1, 0, 2, 0), NONE);
    }

    private static void call() {
        for (int none : NO_NODES) {
            Twins.refused(c, "call by node " + none, BUSY, x -> x.call(none, 0, 1), NONE);
        }
        for (int none : NO_ROOTS) {
            Twins.refused(c, "call by root " + none, BUSY, x -> x.call(2, none, 1), NONE);
        }
        Supplier<LeasedReferences> crashed = () -> {
            LeasedReferences x = Scenes.known();
            x.crash(1);
            return x;
        };
        Twins.refused(c, "call by a crashed node", crashed, x -> x.call(1, 0, 1), NONE);
        Twins.refused(c, "call by a root that is nothing", BUSY, x -> x.call(0, 2, 1), NONE);
        Twins.refused(c, "call of an object", BUSY, x -> x.call(0, 0, 1), NONE);
        Twins.refused(c, "call while one WAITS", BUSY, x -> x.call(1, 0, 1), NONE);
        Twins.refused(c, "call of an object while one WAITS", BUSY, x -> x.call(1, 1, 1), NONE);
        Twins.refused(c, "call while one WAITS, 32 in flight", CROWDED, x -> x.call(1, 0, 1), NONE);
    }

    private static void callNotGood() {
        c.sentence(7, "else STALE when this is not GOOD.");
        Twins.refused(c, "call of a PENDING one", BUSY, x -> x.call(2, 0, 1), STALE);
        Twins.refused(c, "call of a STALE one", BUSY, x -> x.call(2, 2, 1), STALE);
        Supplier<LeasedReferences> waiting = () -> {
            LeasedReferences x = Scenes.busy();
            x.call(2, 1, 1);
            return x;
        };
        Twins.refused(c, "call of a PENDING one while one WAITS", waiting, x -> x.call(2, 0, 1), NONE);
        Twins.refused(c, "call of a STALE one while one WAITS", waiting, x -> x.call(2, 2, 1), NONE);
    }

    private static void places() {
        int[] notOfFive = {LEAST, -1, 5, 6, MOST};
        int[] notOf32 = {LEAST, -1, 32, 33, MOST};
        int[] notOfNone = {LEAST, -1, 0, 1, MOST};
        noPlaces(BUSY, notOfFive);
        noPlaces(CROWDED, notOf32);
        noPlaces(LeasedReferences::new, notOfNone);
        Twins.refused(c, "copy of the oldest of 32", CROWDED, x -> x.copy(0));
        Twins.refused(c, "copy of the newest of 32", CROWDED, x -> x.copy(31));
    }

    private static void noPlaces(Supplier<LeasedReferences> scene, int[] places) {
        for (int k : places) {
                Twins.refused(c, "deliver " + k, scene, x -> x.deliver(k), NONE);
                Twins.refused(c, "lose " + k, scene, x -> x.lose(k));
                Twins.refused(c, "copy " + k, scene, x -> x.copy(k));
                Twins.refused(c, "message of " + k, scene, x -> x.message(k, 0), NONE);
        }
    }

    private static void tick() {
        int[] no = {LEAST, -1, 0, 13, 14, MOST};
        for (int n : no) {
            Twins.refused(c, "tick " + n, BUSY, x -> x.tick(n));
        }
    }

    private static void collect() {
        Supplier<LeasedReferences> dropped = () -> {
            LeasedReferences x = Scenes.known();
            x.make(1, 1);
            x.drop(1, 0);
            x.drop(1, 1);
            x.crash(1);
            return x;
        };
        Twins.refused(c, "collect of a crashed node", dropped, x -> x.collect(1), NONE);
        for (int none : NO_NODES) {
            Twins.refused(c, "collect of node " + none, BUSY, x -> x.collect(none), NONE);
        }
    }

    private static void crash() {
        Twins.refused(c, "crash of a crashed node", BUSY, x -> x.crash(CRASHED));
        for (int none : NO_NODES) {
            Twins.refused(c, "crash of node " + none, BUSY, x -> x.crash(none));
        }
    }

    private static void looks() {
        int[] noParts = {LEAST, -1, 6, MOST};
        for (int none : noParts) {
            Twins.refused(c, "message, which " + none, BUSY, x -> x.message(0, none), NONE);
        }
        for (int none : NO_NODES) {
            Twins.refused(c, "root of node " + none, BUSY, x -> x.root(none, 0), NONE);
        }
        for (int none : NO_ROOTS) {
            Twins.refused(c, "root " + none, BUSY, x -> x.root(0, none), NONE);
        }
        Twins.refused(c, "a root that is nothing", BUSY, x -> x.root(0, 2), NONE);
        for (int none : NO_NODES) {
            Twins.refused(c, "slot of node " + none, BUSY, x -> x.slot(none, 0, 0), NONE);
        }
        for (int none : NO_SLOTS) {
            Twins.refused(c, "slot " + none, BUSY, x -> x.slot(0, none, 0), NONE);
        }
        int[] noWhich = {LEAST, -1, 5, MOST};
        for (int none : noWhich) {
            Twins.refused(c, "slot of an object, which " + none, BUSY, x -> x.slot(0, 0, none), NONE);
            Twins.refused(c, "slot of a surrogate, which " + none, BUSY, x -> x.slot(2, 0, none), NONE);
            Twins.refused(c, "an empty slot, which " + none, BUSY, x -> x.slot(0, 7, none), NONE);
        }
        for (int which = 1; which <= 4; which++) {
            int part = which;
            Twins.refused(c, "an empty slot, which " + which, BUSY, x -> x.slot(0, 7, part), NONE);
        }
    }

    private static void nodeLooks() {
        for (int none : NO_NODES) {
            Twins.refused(c, "listing of node " + none, BUSY, x -> x.listing(none, 0, 1), NONE);
            Twins.refused(c, "listing for client " + none, BUSY, x -> x.listing(0, 0, none), NONE);
        }
        for (int none : NO_SLOTS) {
            Twins.refused(c, "listing of slot " + none, BUSY, x -> x.listing(0, none, 1), NONE);
        }
        Twins.refused(c, "listing for the owner", BUSY, x -> x.listing(0, 0, 0), NONE);
        Twins.refused(c, "listing for a crashed owner", BUSY, x -> x.listing(CRASHED, 0, CRASHED), NONE);
        Twins.refused(c, "listing of a surrogate", BUSY, x -> x.listing(2, 0, 0), NONE);
        Twins.refused(c, "listing of an empty slot", BUSY, x -> x.listing(0, 7, 1), NONE);
        for (int none : NO_NODES) {
            Twins.refused(c, "pins of node " + none, BUSY, x -> x.pins(none), NONE);
        }
        int[] noParts = {LEAST, -1, 3, MOST};
        for (int none : NO_NODES) {
            Twins.refused(c, "outcome of node " + none, BUSY, x -> x.outcome(none, 0), NONE);
        }
        for (int none : noParts) {
            Twins.refused(c, "outcome, which " + none, BUSY, x -> x.outcome(1, none), NONE);
        }
    }

    /** The least and the greatest of what is there, so that the refusals above are not for nothing. */
    private static void whatIsThereIsNotRefused() {
        c.promise(2, "what is there is not refused");
        LeasedReferences x = Scenes.busy();
        c.due("five fly", x.flight(), 5);
        c.due("message(0, 0)", x.message(0, 0), Kind.DIRTY);
        c.due("message(4, 5)", x.message(4, 5), 0);
        c.due("link(0, 0, 1, 2), from nothing", x.link(0, 0, 1, 2), true);
        c.due("fetch(0, 0, 0, 2)", x.fetch(0, 0, 0, 2), true);
        c.due("root(0, 2)", x.root(0, 2), 1);
        c.due("drop(0, 2)", x.drop(0, 2), true);
        c.due("pass(0, 0, 3, 2), to a crashed node", x.pass(0, 0, 3, 2), 6);
        c.due("call(2, 1, 1)", x.call(2, 1, 1), 2);
        c.due("make(2, 2)", x.make(2, 2), 5);
        c.due("collect(2)", x.collect(2), 1);
        c.due("slot(3, 1, 4)", x.slot(3, 1, 4), NONE);
        c.due("slot(3, 1, 1)", x.slot(3, 1, 1), 4);
        c.due("listing(3, 1, 0)", x.listing(3, 1, 0), 0);
        c.due("outcome(3, 2)", x.outcome(3, 2), 0);
        c.due("copy(6)", x.copy(6), true);
        c.due("deliver(7)", x.deliver(7), 1);
        c.due("lose(6)", x.lose(6), true);
        c.due("tick(12)", x.tick(12), true);
        c.due("crash(2)", x.crash(2), true);
    }
}
