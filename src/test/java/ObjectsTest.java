/** Promises 1 to 5, 16 and 17: a new object, make, link, fetch, drop, root, slot. */
public final class ObjectsTest {
    private static final int[] NO_NODES = {-1, 4, Integer.MIN_VALUE, Integer.MAX_VALUE};
    private static final int[] NO_ROOTS = {-1, 3, Integer.MIN_VALUE, Integer.MAX_VALUE};
    private static final int[] NO_FIELDS = {-1, 2, Integer.MIN_VALUE, Integer.MAX_VALUE};
    private static final Checks c = new Checks();

    public static void main(String[] args) {
        newObject();
        make();
        link();
        linkRefused();
        fetch();
        fetchRefused();
        drop();
        root();
        slotOfObject();
        slotOfSurrogate();
        c.end();
    }

    private static void newObject() {
        c.promise(1, "a new object");
        LeasedReferences x = new LeasedReferences();
        c.due("flight()", x.flight(), 0);
        for (int node = 0; node < 4; node++) {
            for (int k = 0; k < 8; k++) {
                c.due("slot(.., 0)", x.slot(node, k, 0), 0);
            }
            for (int r = 0; r < 3; r++) {
                c.due("root", x.root(node, r), LeasedReferences.NONE);
            }
            c.due("pins", x.pins(node), 0);
            for (int which = 0; which < 3; which++) {
                c.due("outcome", x.outcome(node, which), 0);
            }
            c.isTrue("no node crashed", x.crash(node));
        }
        LeasedReferences other = new LeasedReferences();
        x = new LeasedReferences();
        x.make(0, 0);
        c.due("serials are each object's own", other.make(3, 0), 0);
        c.due("NONE", LeasedReferences.NONE, -1);
        c.due("STALE", LeasedReferences.STALE, -2);
    }

    private static void make() {
        c.promise(2, "make");
        LeasedReferences x = new LeasedReferences();
        c.due("first serial", x.make(2, 1), 0);
        c.due("root refers to it", x.root(2, 1), 0);
        c.due("serials go over all nodes", x.make(3, 2), 1);
        c.due("its slot is node 3's first", x.root(3, 2), 0);
        for (int i = 1; i < 8; i++) {
            c.due("next serial", x.make(2, 0), i + 1);
            c.due("least empty slot", x.root(2, 0), i);
        }
        String before = Look.at(x);
        c.due("no slot is empty", x.make(2, 0), -1);
        for (int none : NO_NODES) {
            c.due("no node " + none, x.make(none, 0), -1);
        }
        for (int none : NO_ROOTS) {
            c.due("no root " + none, x.make(0, none), -1);
        }
        x.crash(1);
        c.due("crashed", x.make(1, 0), -1);
        c.isTrue("refusals change nothing", before.equals(Look.at(x)));
        c.due("refusals use up no serial", x.make(3, 0), 9);

        x = new LeasedReferences();
        x.make(0, 0);
        x.make(0, 1);
        x.make(0, 2);
        x.drop(0, 1);
        x.collect(0);
        c.due("serials are not used again", x.make(0, 1), 3);
        c.due("the emptied slot is the least", x.root(0, 1), 1);
    }

    private static void link() {
        c.sentence(3, "The field of the object to which the root refers becomes what root from refers to, or nothing if from "
                + "is -1 or refers to nothing.");
        LeasedReferences x = new LeasedReferences();
        x.make(1, 0);
        x.make(1, 1);
        c.due("field 1", x.link(1, 0, 1, 1), true);
        c.due("field 1 is set", x.slot(1, 0, 4), 1);
        c.due("field 0 is not", x.slot(1, 0, 3), -1);
        c.due("to itself", x.link(1, 0, 0, 0), true);
        c.due("field 0 is set", x.slot(1, 0, 3), 0);
        c.due("from -1", x.link(1, 0, 1, -1), true);
        c.due("nothing now", x.slot(1, 0, 4), -1);
        c.due("from an empty root", x.link(1, 0, 0, 2), true);
        c.due("nothing now", x.slot(1, 0, 3), -1);

        x = Scenes.known();
        x.make(1, 1);
        c.due("to a surrogate", x.link(1, 1, 0, 0), true);
        c.due("its slot", x.slot(1, 1, 3), 0);
    }

    private static void linkRefused() {
        c.promise(3, "link refused");
        LeasedReferences x = Scenes.known();
        x.make(2, 0);
        x.crash(2);
        String before = Look.at(x);
        c.due("root is nothing", x.link(0, 1, 0, 0), false);
        c.due("root is a surrogate", x.link(1, 0, 0, 0), false);
        c.due("from -2", x.link(0, 0, 0, -2), false);
        c.due("from 3", x.link(0, 0, 0, 3), false);
        for (int none : NO_NODES) {
            c.due("no node " + none, x.link(none, 0, 0, 0), false);
        }
        for (int none : NO_ROOTS) {
            c.due("no root " + none, x.link(0, none, 0, 0), false);
        }
        for (int none : NO_FIELDS) {
            c.due("no field " + none, x.link(0, 0, none, 0), false);
        }
        c.due("crashed", x.link(2, 0, 0, 0), false);
        c.isTrue("refusals change nothing", before.equals(Look.at(x)));
    }

    private static void fetch() {
        c.sentence(4, "Root into refers to what the field of the object to which the root refers refers to (perhaps nothing: "
                + "then it refers to nothing).");
        LeasedReferences x = new LeasedReferences();
        x.make(0, 0);
        x.make(0, 1);
        x.link(0, 0, 1, 1);
        c.due("field 1 into 2", x.fetch(0, 0, 1, 2), true);
        c.due("root 2", x.root(0, 2), 1);
        c.due("field 0, nothing, into 2", x.fetch(0, 0, 0, 2), true);
        c.due("root 2 is nothing", x.root(0, 2), -1);
        c.due("into itself", x.fetch(0, 0, 1, 0), true);
        c.due("root 0", x.root(0, 0), 1);
    }

    private static void fetchRefused() {
        c.promise(4, "fetch refused");
        LeasedReferences x = Scenes.known();
        x.make(2, 0);
        x.crash(2);
        String before = Look.at(x);
        c.due("root is nothing", x.fetch(0, 1, 0, 0), false);
        c.due("root is a surrogate", x.fetch(1, 0, 0, 1), false);
        for (int none : NO_NODES) {
            c.due("no node " + none, x.fetch(none, 0, 0, 0), false);
        }
        for (int none : NO_ROOTS) {
            c.due("no root " + none, x.fetch(0, none, 0, 0), false);
            c.due("into no root " + none, x.fetch(0, 0, 0, none), false);
        }
        for (int none : NO_FIELDS) {
            c.due("no field " + none, x.fetch(0, 0, none, 0), false);
        }
        c.due("crashed", x.fetch(2, 0, 0, 0), false);
        c.isTrue("refusals change nothing", before.equals(Look.at(x)));
    }

    private static void drop() {
        c.promise(5, "drop");
        LeasedReferences x = new LeasedReferences();
        x.make(3, 0);
        x.make(3, 1);
        c.due("drop", x.drop(3, 1), true);
        c.due("root 1", x.root(3, 1), -1);
        c.due("root 0 stays", x.root(3, 0), 0);
        c.due("the slot stays", x.slot(3, 1, 0), 1);
        c.due("again", x.drop(3, 1), true);
        x.crash(3);
        c.due("crashed", x.drop(3, 0), false);
        c.due("and its root stays", x.root(3, 0), 0);
        for (int none : NO_NODES) {
            c.due("no node " + none, x.drop(none, 0), false);
        }
        for (int none : NO_ROOTS) {
            c.due("no root " + none, x.drop(0, none), false);
        }
    }

    private static void root() {
        c.promise(16, "root");
        LeasedReferences x = Scenes.known();
        x.make(1, 2);
        c.due("a surrogate's slot", x.root(1, 0), 0);
        c.due("nothing", x.root(1, 1), -1);
        c.due("an object's slot", x.root(1, 2), 1);
        x.crash(1);
        c.due("crashed", x.root(1, 2), 1);
        for (int none : NO_NODES) {
            c.due("no node " + none, x.root(none, 0), -1);
        }
        for (int none : NO_ROOTS) {
            c.due("no root " + none, x.root(1, none), -1);
        }
    }

    private static void slotOfObject() {
        c.sentence(17, "0 what it holds (0 nothing, 1 an object, 2 a surrogate), 1 the serial, 2 of an object its value, [..] 3 and "
                + "4 of an object the slots that its fields 0 and 1 refer to (NONE for nothing)");
        LeasedReferences x = new LeasedReferences();
        x.make(0, 0);
        x.make(1, 0);
        x.make(1, 1);
        x.link(1, 1, 0, 0);
        x.link(1, 1, 1, 1);
        for (int round = 0; round < 2; round++) {
            c.due("holds an object", x.slot(1, 1, 0), 1);
            c.due("serial", x.slot(1, 1, 1), 2);
            c.due("value", x.slot(1, 1, 2), 0);
            c.due("field 0", x.slot(1, 1, 3), 0);
            c.due("field 1", x.slot(1, 1, 4), 1);
            c.due("which 5", x.slot(1, 1, 5), -1);
            c.due("which -1", x.slot(1, 1, -1), -1);
            c.due("empty: 0", x.slot(1, 2, 0), 0);
            for (int which = 1; which <= 5; which++) {
                c.due("empty: " + which, x.slot(1, 2, which), -1);
            }
            c.due("empty: -1", x.slot(1, 2, -1), -1);
            c.due("slot -1", x.slot(1, -1, 0), -1);
            c.due("slot 8", x.slot(1, 8, 0), -1);
            c.due("slot 7", x.slot(1, 7, 0), 0);
            for (int none : NO_NODES) {
                c.due("no node " + none, x.slot(none, 0, 0), -1);
            }
            x.crash(1);
        }
        x = new LeasedReferences();
        x.make(0, 0);
        x.link(0, 0, 0, 0);
        x.drop(0, 0);
        x.collect(0);
        x.make(0, 0);
        c.due("a new object has no field", x.slot(0, 0, 3), -1);
        c.due("and its own serial", x.slot(0, 0, 1), 1);

        x = Scenes.known();
        x.call(1, 0, 6);
        Scenes.deliverOldest(x, 2);
        c.due("value", x.slot(0, 0, 2), 6);
        x.drop(0, 0);
        x.drop(1, 0);
        x.collect(1);
        x.deliver(0);
        x.collect(0);
        x.make(0, 0);
        c.due("a new object's value", x.slot(0, 0, 2), 0);
    }

    private static void slotOfSurrogate() {
        c.sentence(17, "of a surrogate 0 PENDING, 1 GOOD, 2 STALE; [..] of a surrogate 3 the expiry and 4 the owner.");
        LeasedReferences x = new LeasedReferences();
        x.tick(3);
        x.make(1, 0);
        x.make(2, 0);
        x.pass(2, 0, 0, 1);
        x.deliver(0);
        c.due("holds a surrogate", x.slot(0, 0, 0), 2);
        c.due("serial", x.slot(0, 0, 1), 1);
        c.due("PENDING", x.slot(0, 0, 2), 0);
        c.due("expiry", x.slot(0, 0, 3), 27);
        c.due("owner", x.slot(0, 0, 4), 2);
        c.due("which 5", x.slot(0, 0, 5), -1);
        Scenes.deliverOldest(x, 2);
        c.due("GOOD", x.slot(0, 0, 2), 1);
        x.crash(0);
        c.due("crashed: GOOD", x.slot(0, 0, 2), 1);
        Scenes.quietTicks(x, 23);
        c.due("crashed: still GOOD", x.slot(0, 0, 2), 1);
        Scenes.quietTicks(x, 1);
        c.due("crashed: STALE by the clock", x.slot(0, 0, 2), 2);
    }
}
