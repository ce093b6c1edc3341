import java.util.function.Supplier;

/**
 * The sentences of promises 1 to 20 that name a boundary, each just below it, at it, and beyond it. What a refused
 * call leaves is looked at in RefusalsTest, the coming of messages in ComingBoundsTest.
 */
public final class PromiseBoundsTest {
    private static final int NONE = LeasedReferences.NONE;
    private static final int STALE = LeasedReferences.STALE;
    private static final int WAITING = 1;
    private static final int FAILED = 3;
    private static final Checks c = new Checks();

    public static void main(String[] args) {
        newObject();
        makeInLeastEmptySlot();
        makeWhenNoSlotIsEmpty();
        linkFrom();
        linkOfNoObject();
        fetchInto();
        fetchFromNoObject();
        dropMayBeSoAlready();
        passOfNothingOrToItself();
        passSixPins();
        passNotGood();
        passToCrashed();
        callWhileWaiting();
        callNotGood();
        placesOfTheFlight();
        copyUpTo32();
        tickCount();
        tickIsThatOften();
        tickSixAgo();
        tickNotStale();
        tickThreeAgo();
        tickFails();
        tickOrder();
        collectCounts();
        crashOnce();
        flightCounts();
        messageParts();
        rootLooks();
        slotParts();
        listingLooks();
        pinsCount();
        outcomeParts();
        c.end();
    }

    private static void newObject() {
        c.sentence(1, "All nodes, all slots empty, nothing in flight.");
        LeasedReferences x = new LeasedReferences();
        c.due("flight", x.flight(), 0);
        c.due("message", x.message(0, 0), NONE);
        for (int node = 0; node <= 3; node++) {
            for (int k = 0; k <= 7; k++) {
                c.due("slot " + k + " of node " + node, x.slot(node, k, 0), 0);
            }
            for (int root = 0; root <= 2; root++) {
                c.due("root " + root + " of node " + node, x.root(node, root), NONE);
            }
            c.due("pins", x.pins(node), 0);
            c.due("call", x.outcome(node, 0), 0);
            c.due("number", x.outcome(node, 1), 0);
            c.due("RESULT", x.outcome(node, 2), 0);
            c.due("it did not crash", x.collect(node), 0);
        }
        LeasedReferences busy = Scenes.busy();
        c.due("another object's calls leave a new one new", new LeasedReferences().flight(), 0);
        c.due("and a new one leaves the other", busy.flight(), 5);
    }

    // ---- make, link, fetch, drop ----

    private static void makeInLeastEmptySlot() {
        c.sentence(2, "Makes an object in the least empty slot of the node, to which the root then refers: its serial.");
        for (int root = 0; root <= 2; root++) {
            LeasedReferences x = new LeasedReferences();
            for (int k = 0; k <= 7; k++) {
                c.due("serial", x.make(1, root), k);
                c.due("least empty slot", x.root(1, root), k);
            }
            x.collect(1);
            c.due("slot 7 is left", x.slot(1, 7, 0), 1);
            for (int k = 0; k <= 6; k++) {
                c.due("serials go on", x.make(1, root == 0 ? 1 : 0), 8 + k);
                c.due("least empty slot", x.root(1, root == 0 ? 1 : 0), k);
            }
            c.due("none is empty", x.make(1, root), NONE);
        }
    }

    private static void makeWhenNoSlotIsEmpty() {
        c.sentence(2, "NONE, too, when no slot is empty.");
        for (int held = 6; held <= 8; held++) {
            LeasedReferences x = new LeasedReferences();
            for (int i = 0; i < held; i++) {
                x.make(2, 0);
            }
            c.due("with " + held, x.make(2, 1), held < 8 ? held : NONE);
            c.due("the root", x.root(2, 1), held < 8 ? held : NONE);
            c.due("other nodes have their own slots", x.make(3, 1), held < 8 ? held + 1 : 8);
        }
        LeasedReferences x = Scenes.known();
        for (int i = 0; i < 7; i++) {
            x.make(1, 1);
        }
        c.due("a surrogate holds a slot, too", x.make(1, 2), NONE);
    }

    private static void linkFrom() {
        c.sentence(3, "becomes what root from refers to, or nothing if from is -1 or refers to nothing.");
        for (int field = 0; field <= 1; field++) {
            for (int from = -2; from <= 3; from++) {
                LeasedReferences x = new LeasedReferences();
                x.make(0, 0);
                x.make(0, 1);
                x.link(0, 0, field, 1);
                c.due("from " + from, x.link(0, 0, field, from), from >= -1 && from <= 2);
                int refersTo = from == 0 ? 0 : from == 1 || from == -2 || from == 3 ? 1 : NONE;
                c.due("field " + field, x.slot(0, 0, 3 + field), refersTo);
                c.due("the other field", x.slot(0, 0, 4 - field), NONE);
            }
        }
        for (int field = -1; field <= 2; field++) {
            LeasedReferences x = new LeasedReferences();
            x.make(0, 2);
            c.due("field " + field, x.link(0, 2, field, 2), field == 0 || field == 1);
        }
    }

    private static void linkOfNoObject() {
        c.sentence(3, "False, too, when the root does not refer to an object.");
        LeasedReferences x = Scenes.known();
        c.due("nothing", x.link(0, 1, 0, 0), false);
        c.due("nothing, from -1", x.link(0, 1, 0, -1), false);
        c.due("a surrogate", x.link(1, 0, 0, 0), false);
        c.due("a surrogate, from -1", x.link(1, 0, 0, -1), false);
        c.due("an object", x.link(0, 0, 0, 0), true);
        x.make(1, 1);
        c.due("an object, from a surrogate", x.link(1, 1, 0, 0), true);
        c.due("the surrogate's slot", x.slot(1, 1, 3), 0);
    }

    private static void fetchInto() {
        c.sentence(4, "Root into refers to what the field [..] refers to (perhaps nothing: then it refers to nothing).");
        for (int into = -1; into <= 3; into++) {
            for (int field = -1; field <= 2; field++) {
                LeasedReferences x = new LeasedReferences();
                x.make(0, 0);
                x.make(0, 1);
                x.make(0, 2);
                x.link(0, 0, 0, 1);
                boolean there = into >= 0 && into <= 2 && (field == 0 || field == 1);
                c.due("field " + field + " into " + into, x.fetch(0, 0, field, into), there);
                for (int root = 0; root <= 2; root++) {
                    int fetched = field == 0 ? 1 : NONE;
                    c.due("root " + root, x.root(0, root), there && root == into ? fetched : root);
                }
            }
        }
    }

    private static void fetchFromNoObject() {
        c.sentence(4, "False, too, when the root does not refer to an object.");
        LeasedReferences x = Scenes.known();
        c.due("nothing", x.fetch(0, 1, 0, 0), false);
        c.due("a surrogate", x.fetch(1, 0, 0, 0), false);
        c.due("roots stay", x.root(0, 0) * 10 + x.root(1, 0), 0);
        c.due("an object", x.fetch(0, 0, 0, 0), true);
        c.due("its field is nothing", x.root(0, 0), NONE);
    }

    private static void dropMayBeSoAlready() {
        c.sentence(5, "The root refers to nothing (it may be so already).");
        for (int root = 0; root <= 2; root++) {
            LeasedReferences x = new LeasedReferences();
            c.due("nothing at first", x.drop(0, root), true);
            x.make(0, root);
            c.due("an object", x.drop(0, root), true);
            c.due("nothing", x.root(0, root), NONE);
            c.due("again", x.drop(0, root), true);
            c.due("the slot is not empty yet", x.slot(0, 0, 0), 1);
        }
    }

    // ---- pass ----

    private static void passOfNothingOrToItself() {
        c.sentence(6, "NONE, too, when to is the node itself, the root refers to nothing");
        for (int node = 0; node <= 3; node++) {
            LeasedReferences x = new LeasedReferences();
            c.due("nothing", x.pass(node, 0, (node + 1) % 4, 0), NONE);
            x.make(node, 0);
            int ids = 0;
            for (int to = -1; to <= 4; to++) {
                boolean other = to >= 0 && to <= 3 && to != node;
                c.due("from " + node + " to " + to, x.pass(node, 0, to, 0), other ? ids : NONE);
                ids += other ? 1 : 0;
            }
            for (int into = -1; into <= 3; into++) {
                boolean isRoot = into >= 0 && into <= 2;
                c.due("into " + into, x.pass(node, 0, (node + 1) % 4, into), isRoot ? ids : NONE);
                ids += isRoot ? 1 : 0;
            }
        }
    }

    private static void passSixPins() {
        c.sentence(6, "NONE, too, when [..] or six pins of the node did not end;");
        LeasedReferences x = Scenes.known();
        for (int pins = 0; pins <= 7; pins++) {
            c.due("with " + pins, x.pass(0, 0, 2, 0), pins < 6 ? 1 + pins : NONE);
            c.due("pins", x.pins(0), Math.min(pins + 1, 6));
        }
        c.due("node 1 has its own", x.pass(1, 0, 2, 0), 7);
        Scenes.loseAll(x);
        Scenes.ticks(x, 23);
        c.due("all last at 23", x.pass(0, 0, 2, 0), NONE);
        x.tick(1);
        c.due("all ended at 24", x.pins(0), 0);
        c.due("a pin", x.pass(0, 0, 2, 0), 8);
        c.due("one", x.pins(0), 1);

        x = Scenes.known();
        for (int i = 0; i < 6; i++) {
            x.pass(0, 0, 1, 0);
        }
        x.deliver(0);
        c.due("six", x.pass(0, 0, 1, 0), NONE);
        x.deliver(5);
        c.due("one ended by TAKEN", x.pass(0, 0, 1, 0), 7);
        c.due("six again", x.pass(0, 0, 1, 0), NONE);
    }

    private static void passNotGood() {
        c.sentence(6, "else STALE when it refers to a surrogate that is not GOOD.");
        LeasedReferences x = Scenes.pending();
        c.due("PENDING", x.pass(1, 0, 2, 0), STALE);
        for (int after = 22; after <= 25; after++) {
            x = Scenes.known();
            Scenes.quietTicks(x, after);
            c.due("after " + after, x.pass(1, 0, 2, 0), after < 24 ? 1 : STALE);
            c.due("pins", x.pins(1), after < 24 ? 1 : 0);
            c.due("flight", x.flight(), after < 24 ? 1 : 0);
            c.due("the object itself", x.pass(0, 0, 2, 0), after < 24 ? 2 : 1);
        }
        for (int pins = 5; pins <= 6; pins++) {
            x = Scenes.stale();
            x.make(1, 1);
            for (int i = 0; i < pins; i++) {
                x.pass(1, 1, 2, 0);
            }
            c.due("STALE with " + pins + " pins", x.pass(1, 0, 2, 0), pins < 6 ? STALE : NONE);
        }
    }

    private static void passToCrashed() {
        c.sentence(6, "(to may have crashed.)");
        LeasedReferences x = Scenes.known();
        x.crash(2);
        c.due("an object", x.pass(0, 0, 2, 1), 1);
        c.due("a surrogate", x.pass(1, 0, 2, 1), 2);
        c.due("pins", x.pins(0) * 10 + x.pins(1), 11);
        c.message(x, 0, Kind.PASS, 0, 2, 0, 1, 4);
        c.message(x, 1, Kind.PASS, 1, 2, 0, 2, 4);
        x.crash(0);
        c.due("a surrogate to its crashed owner", x.pass(1, 0, 0, 2), 3);
    }

    // ---- call ----

    private static void callWhileWaiting() {
        c.sentence(7, "NONE, too, when the node's call is WAITING or the root does not refer to a surrogate");
        LeasedReferences x = Scenes.known();
        x.make(1, 1);
        c.due("an object", x.call(1, 1, 1), NONE);
        c.due("nothing", x.call(1, 2, 1), NONE);
        c.due("a surrogate", x.call(1, 0, 1), 1);
        c.due("WAITING", x.call(1, 0, 1), NONE);
        Scenes.deliverOldest(x, 2);
        c.due("DONE", x.call(1, 0, 1), 2);
        c.due("WAITING", x.call(1, 0, 1), NONE);
        x.pass(0, 0, 2, 0);
        for (int i = 0; i < 4; i++) {
            x.deliver(1);
        }
        c.due("another node's does not matter", x.call(2, 0, 1), 1);

        x = Scenes.flying(Kind.NOOBJECT);
        x.make(2, 0);
        x.pass(2, 0, 1, 1);
        for (int i = 0; i < 4; i++) {
            x.deliver(1);
        }
        c.due("WAITING", x.call(1, 1, 1), NONE);
        x.deliver(0);
        c.due("FAILED", x.call(1, 1, 1), 2);
    }

    private static void callNotGood() {
        c.sentence(7, "else STALE when this is not GOOD.");
        c.due("PENDING", Scenes.pending().call(1, 0, 1), STALE);
        for (int after = 22; after <= 25; after++) {
            LeasedReferences x = Scenes.known();
            Scenes.quietTicks(x, after);
            c.due("after " + after, x.call(1, 0, 1), after < 24 ? 1 : STALE);
            c.due("the call", x.outcome(1, 0), after < 24 ? WAITING : 0);
            c.due("flight", x.flight(), after < 24 ? 1 : 0);
        }
        LeasedReferences x = Scenes.known();
        x.crash(0);
        c.due("GOOD, though its owner crashed", x.call(1, 0, 1), 1);
        x = Scenes.known();
        Scenes.quietTicks(x, 22);
        x.call(1, 0, 1);
        x.tick(2);
        c.due("WAITING goes before STALE", x.call(1, 0, 1), NONE);
        x.tick(1);
        c.due("FAILED", x.outcome(1, 0), FAILED);
        c.due("STALE", x.call(1, 0, 1), STALE);
    }

    // ---- the flight ----

    private static void placesOfTheFlight() {
        c.sentence(8, "Takes the message at place k of the flight (0 is the oldest) out [..] NONE when k is no place.");
        int[] sizes = {0, 1, 31, 32};
        int[] far = {Integer.MIN_VALUE, Integer.MAX_VALUE};
        for (int size : sizes) {
            for (int k = -1; k <= size + 1; k++) {
                boolean isPlace = k >= 0 && k < size;
                LeasedReferences x = distinct(size);
                c.due("message " + k + " of " + size, x.message(k, 4), isPlace ? k + 1 : NONE);
                c.due("lose " + k + " of " + size, x.lose(k), isPlace);
                c.due("flight", x.flight(), isPlace ? size - 1 : size);
                if (isPlace && size > 1) {
                    c.due("the next moves up", x.message(k, 4), k == size - 1 ? NONE : k + 2);
                    c.due("the oldest", x.message(0, 4), k == 0 ? 2 : 1);
                }
                x = distinct(size);
                c.due("deliver " + k + " of " + size, x.deliver(k), isPlace ? 0 : NONE);
                c.due("flight", x.flight(), isPlace ? size - 1 : size);
                x = distinct(size);
                c.due("copy " + k + " of " + size, x.copy(k), isPlace && size < 32);
                if (isPlace && size < 32) {
                    c.due("at the end", x.message(size, 4), k + 1);
                }
            }
            for (int k : far) {
                LeasedReferences x = distinct(size);
                c.due("deliver " + k, x.deliver(k), NONE);
                c.due("lose " + k, x.lose(k), false);
                c.due("copy " + k, x.copy(k), false);
                c.due("message " + k, x.message(k, 0), NONE);
            }
        }
    }

    /** So many ANSWERs fly to a node that crashed, with NUMBERs 1, 2, .. from the oldest on. */
    private static LeasedReferences distinct(int size) {
        LeasedReferences x = Scenes.known();
        for (int i = 0; i < size; i++) {
            x.call(1, 0, 1);
            x.deliver(i);
            if (i < size - 1) {
                x.copy(i);
                x.deliver(i);
            }
        }
        x.crash(1);
        return x;
    }

    private static void copyUpTo32() {
        c.sentence(10, "false when k is no place or 32 are in flight.");
        for (int flying = 30; flying <= 32; flying++) {
            LeasedReferences x = distinct(flying);
            c.due("with " + flying, x.copy(0), flying < 32);
            c.due("flight", x.flight(), Math.min(flying + 1, 32));
            c.message(x, x.flight() - 1, Kind.ANSWER, 0, 1, 0, flying < 32 ? 1 : 32);
        }
        LeasedReferences x = distinct(32);
        x.lose(5);
        c.due("with 31 again", x.copy(30), true);
        c.due("a copy of the newest", x.message(31, 4), 32);
        x = Scenes.flying(Kind.DIRTY);
        x.tick(2);
        c.due("a copy", x.copy(0), true);
        c.message(x, 1, Kind.DIRTY, 1, 0, 0, 1, 0);
        x.lose(0);
        c.message(x, 0, Kind.DIRTY, 1, 0, 0, 1, 0);
    }

    // ---- tick ----

    private static void tickCount() {
        c.sentence(11, "n times (1 .. 12, else false)");
        int[] counts = {Integer.MIN_VALUE, -1, 0, 1, 2, 11, 12, 13, 14, Integer.MAX_VALUE};
        for (int n : counts) {
            LeasedReferences x = Scenes.known();
            boolean there = n >= 1 && n <= 12;
            c.due("tick " + n, x.tick(n), there);
            c.due("the listing", x.listing(0, 0, 1), there ? 24 - n : 24);
        }
    }

    private static void tickIsThatOften() {
        c.sentence(11, "n times [..] the clock grows by 1; then");
        for (int n = 1; n <= 12; n++) {
            int times = n;
            c.isTrue("tick " + n + " is tick 1, so often", Twins.alike(Scenes::busy, x -> x.tick(times) ? 1 : 0, x -> {
                for (int i = 0; i < times; i++) {
                    x.tick(1);
                }
                return 1;
            }));
        }
    }

    private static void tickSixAgo() {
        c.sentence(11, "a DIRTY is sent for a surrogate [..] whose SENT was 6 or more ago;");
        for (int pending = 0; pending <= 1; pending++) {
            for (int ago = 4; ago <= 13; ago++) {
                LeasedReferences x = pending == 1 ? Scenes.pending() : Scenes.known();
                Scenes.loseAll(x);
                Scenes.ticks(x, ago);
                c.due("DIRTYs at " + ago, x.flight(), ago < 6 ? 0 : ago < 12 ? 1 : 2);
                if (ago >= 6) {
                    c.message(x, 0, Kind.DIRTY, 1, 0, 0, 2, 6);
                }
                if (ago >= 12) {
                    c.message(x, 1, Kind.DIRTY, 1, 0, 0, 3, 12);
                }
            }
        }
        for (int k = 0; k <= 7; k++) {
            LeasedReferences x = new LeasedReferences();
            x.make(0, 0);
            for (int i = 0; i < k; i++) {
                x.make(3, 0);
            }
            x.pass(0, 0, 3, 0);
            Scenes.deliverOldest(x, 4);
            c.due("a surrogate in slot " + k, x.slot(3, k, 0), 2);
            x.tick(6);
            c.due("a DIRTY for it", x.flight(), 1);
        }
    }

    private static void tickNotStale() {
        c.sentence(11, "a DIRTY is sent for a surrogate that is not STALE and");
        // SENT is 6, 12, 18 after it was made, and the next would be at the very tick of its expiry
        for (int made = 0; made <= 7; made += 7) {
            LeasedReferences x = new LeasedReferences();
            Scenes.ticks(x, made);
            x.make(0, 0);
            x.pass(0, 0, 1, 0);
            Scenes.deliverOldest(x, 4);
            Scenes.quietTicks(x, 23);
            x.tick(1);
            c.due("STALE at this very tick", x.slot(1, 0, 2), 2);
            c.due("no DIRTY, though SENT was 6 ago", x.flight(), 0);
            Scenes.ticks(x, 12);
            c.due("nor later", x.flight(), 0);
        }
        LeasedReferences x = Scenes.known();
        x.tick(6);
        Scenes.deliverOldest(x, 2);
        c.due("the expiry", x.slot(1, 0, 3), 30);
        Scenes.quietTicks(x, 17);
        x.tick(1);
        c.due("not STALE at 24", x.flight(), 1);
        c.message(x, 0, Kind.DIRTY, 1, 0, 0, 5, 24);
        x.lose(0);
        x.tick(6);
        c.due("STALE at 30", x.flight(), 0);
    }

    private static void tickThreeAgo() {
        c.sentence(11, "if its call WAITS and the latest sending of it was 3 or more ago: [..] CALL is sent again.");
        for (int ago = 1; ago <= 7; ago++) {
            LeasedReferences x = Scenes.known();
            x.tick(6);
            Scenes.deliverOldest(x, 2);
            x.call(1, 0, 8);
            x.lose(0);
            for (int i = 1; i <= ago; i++) {
                x.tick(1);
                int calls = 0;
                for (int k = 0; k < x.flight(); k++) {
                    calls += x.message(k, 0) == Kind.CALL ? 1 : 0;
                }
                c.due("CALLs at " + i, calls, i / 3);
            }
            c.due("WAITING", x.outcome(1, 0), WAITING);
            c.due("its number stays", x.outcome(1, 1), 1);
            if (ago >= 3) {
                c.message(x, 0, Kind.CALL, 1, 0, 0, 1, 8);
            }
        }
        LeasedReferences x = Scenes.flying(Kind.CALL);
        Scenes.deliverOldest(x, 2);
        x.tick(5);
        c.due("a call that is DONE is not sent again", x.flight(), 0);
    }

    private static void tickFails() {
        c.sentence(11, "if its surrogate is STALE, it FAILED, else CALL is sent again.");
        for (int called = 19; called <= 23; called++) {
            LeasedReferences x = Scenes.known();
            Scenes.quietTicks(x, called);
            x.call(1, 0, 8);
            x.lose(0);
            x.tick(2);
            Scenes.loseAll(x);
            c.due("2 ago", x.outcome(1, 0), WAITING);
            x.tick(1);
            boolean stale = called + 3 >= 24;
            c.due("STALE", x.slot(1, 0, 2), stale ? 2 : 1);
            c.due("3 ago, at " + (called + 3), x.outcome(1, 0), stale ? FAILED : WAITING);
            c.due("CALL, or nothing", x.flight(), stale ? 0 : 1);
            c.due("no RESULT", x.outcome(1, 2), 0);
        }
        LeasedReferences x = Scenes.known();
        Scenes.quietTicks(x, 23);
        x.call(1, 0, 8);
        x.tick(1);
        x.pass(0, 0, 1, 0);
        x.deliver(1);
        x.tick(2);
        c.due("PENDING is not STALE", x.outcome(1, 0), WAITING);
        c.due("CALL is sent again", x.message(x.flight() - 1, 0), Kind.CALL);
    }

    private static void tickOrder() {
        c.sentence(11, "then for the nodes 0 to 3 that did not crash: for slots 0 to 7, a DIRTY is sent [..] then, if its call");
        for (int crashed = -1; crashed <= 3; crashed++) {
            LeasedReferences x = everyNodeHasTwo();
            Scenes.ticks(x, 3);
            for (int node = 3; node >= 0; node--) {
                c.due("a call", x.call(node, 1, 1), 1);
            }
            Scenes.loseAll(x);
            x.crash(crashed);
            x.tick(3);
            int k = 0;
            for (int node = 0; node <= 3; node++) {
                if (node != crashed) {
                    c.message(x, k, Kind.DIRTY, node, (node + 1) % 4, (node + 1) % 4, 3, 6);
                    c.message(x, k + 1, Kind.DIRTY, node, (node + 2) % 4, (node + 2) % 4, 4, 6);
                    c.message(x, k + 2, Kind.CALL, node, (node + 1) % 4, (node + 1) % 4, 1, 1);
                    k += 3;
                }
            }
            c.due("and no more", x.flight(), k);
        }
    }

    /** Each node n has object n at root 0, GOOD surrogates for n + 1 in slot 1, root 1, and for n + 2 in slot 2. */
    private static LeasedReferences everyNodeHasTwo() {
        LeasedReferences x = new LeasedReferences();
        for (int node = 0; node <= 3; node++) {
            x.make(node, 0);
        }
        for (int further = 1; further <= 2; further++) {
            for (int node = 0; node <= 3; node++) {
                x.pass((node + further) % 4, 0, node, further);
                Scenes.deliverOldest(x, 4);
            }
        }
        return x;
    }

    // ---- collect, crash ----

    private static void collectCounts() {
        c.sentence(12, "COLLECTING at the node: how many slots became empty.");
        for (int made = 0; made <= 8; made++) {
            LeasedReferences x = new LeasedReferences();
            for (int i = 0; i < made; i++) {
                x.make(0, 0);
            }
            x.make(1, 0);
            x.drop(1, 0);
            x.drop(0, 0);
            c.due("of " + made, x.collect(0), made);
            c.due("again", x.collect(0), 0);
            c.due("another node's stay", x.slot(1, 0, 0), 1);
        }
        LeasedReferences x = Scenes.crowded();
        c.due("32 in flight", x.collect(0), 6);
    }

    private static void crashOnce() {
        c.sentence(13, "The node crashes (false for one that crashed).");
        for (int node = 0; node <= 3; node++) {
            LeasedReferences x = new LeasedReferences();
            c.due("node " + node, x.crash(node), true);
            c.due("again", x.crash(node), false);
            for (int other = 0; other <= 3; other++) {
                c.due("make in " + other, x.make(other, 0) == NONE, other == node);
            }
        }
        LeasedReferences x = new LeasedReferences();
        for (int node = -1; node <= 4; node++) {
            c.due("all, " + node, x.crash(node), node >= 0 && node <= 3);
        }
        c.due("time goes on", x.tick(12), true);
    }

    // ---- looks ----

    private static void flightCounts() {
        c.sentence(14, "The number of messages in flight.");
        int[] sizes = {0, 1, 2, 31, 32};
        for (int size : sizes) {
            LeasedReferences x = distinct(size);
            c.due("of " + size, x.flight(), size);
            Scenes.loseAll(x);
            c.due("none", x.flight(), 0);
        }
        LeasedReferences x = Scenes.crowded();
        x.tick(12);
        c.due("no more than 32", x.flight(), 32);
    }

    private static void messageParts() {
        c.sentence(15, "Of the message at place k: 0 the kind, 1 the sender, 2 the receiver, 3 SERIAL, 4 NUMBER, 5 EXTRA. NONE "
                + "when k is no place or which is not 0 .. 5.");
        LeasedReferences x = new LeasedReferences();
        x.make(2, 0);
        x.make(3, 0);
        x.make(3, 0);
        x.pass(2, 0, 0, 0);
        x.pass(3, 0, 1, 2);
        int[] parts = {NONE, Kind.PASS, 3, 1, 2, 1, 11, NONE};
        for (int which = -1; which <= 6; which++) {
            c.due("which " + which, x.message(1, which), parts[which + 1]);
            c.due("place -1, which " + which, x.message(-1, which), NONE);
            c.due("place 2, which " + which, x.message(2, which), NONE);
        }
    }

    private static void rootLooks() {
        c.sentence(16, "The slot to which the root refers (of a node that crashed, too); NONE when it refers to nothing, or "
                + "there is no such node or root.");
        for (int crashes = 0; crashes <= 1; crashes++) {
            LeasedReferences x = new LeasedReferences();
            for (int i = 0; i < 8; i++) {
                x.make(3, i == 0 ? 0 : 2);
            }
            if (crashes == 1) {
                x.crash(3);
            }
            int[] slots = {NONE, 0, NONE, 7, NONE};
            for (int root = -1; root <= 3; root++) {
                c.due("root " + root, x.root(3, root), slots[root + 1]);
                c.due("node -1", x.root(-1, root), NONE);
                c.due("node 4", x.root(4, root), NONE);
            }
        }
    }

    private static void slotParts() {
        c.sentence(17, "Of a slot (of a node that crashed, too): 0 what it holds [..] NONE when there is no such node or slot, "
                + "which is not 0 .. 4, or for 1 to 4 when it is empty.");
        for (int crashes = 0; crashes <= 1; crashes++) {
            LeasedReferences x = new LeasedReferences();
            x.make(3, 0);
            x.make(2, 0);
            x.make(2, 1);
            x.link(2, 0, 0, 1);
            x.link(2, 0, 1, 0);
            x.tick(2);
            x.pass(3, 0, 2, 2);
            Scenes.deliverOldest(x, 4);
            x.pass(2, 0, 3, 1);
            Scenes.deliverOldest(x, 4);
            x.call(3, 1, -9);
            Scenes.deliverOldest(x, 2);
            if (crashes == 1) {
                x.crash(2);
            }
            int[] object = {NONE, 1, 1, -9, 1, 0, NONE};
            int[] surrogate = {NONE, 2, 0, 1, 26, 3, NONE};
            int[] empty = {NONE, 0, NONE, NONE, NONE, NONE, NONE};
            for (int which = -1; which <= 5; which++) {
                c.due("object, which " + which, x.slot(2, 0, which), object[which + 1]);
                c.due("surrogate, which " + which, x.slot(2, 2, which), surrogate[which + 1]);
                c.due("empty, which " + which, x.slot(2, 7, which), empty[which + 1]);
                c.due("slot -1, which " + which, x.slot(2, -1, which), NONE);
                c.due("slot 8, which " + which, x.slot(2, 8, which), NONE);
                c.due("node -1, which " + which, x.slot(-1, 0, which), NONE);
                c.due("node 4, which " + which, x.slot(4, 0, which), NONE);
            }
            Scenes.quietTicks(x, 23);
            c.due("GOOD at expiry - 1", x.slot(2, 2, 2), 1);
            x.tick(1);
            c.due("STALE at the expiry", x.slot(2, 2, 2), 2);
        }
    }

    private static void listingLooks() {
        c.sentence(18, "How much longer the listing of a node for the object in a slot lasts; 0 when it does not; NONE when "
                + "the slot (of a node that crashed, too) holds no object, or client is no other node.");
        for (int crashes = 0; crashes <= 1; crashes++) {
            LeasedReferences x = Scenes.known();
            if (crashes == 1) {
                x.crash(0);
            }
            int[] clients = {NONE, NONE, 24, 0, 0, NONE};
            for (int client = -1; client <= 4; client++) {
                c.due("client " + client, x.listing(0, 0, client), clients[client + 1]);
                c.due("an empty slot, client " + client, x.listing(0, 1, client), NONE);
                c.due("a surrogate, client " + client, x.listing(1, 0, client), NONE);
                c.due("slot -1, client " + client, x.listing(0, -1, client), NONE);
                c.due("slot 8, client " + client, x.listing(0, 8, client), NONE);
                c.due("node -1, client " + client, x.listing(-1, 0, client), NONE);
                c.due("node 4, client " + client, x.listing(4, 0, client), NONE);
            }
            for (int after = 1; after <= 26; after++) {
                x.tick(1);
                c.due("after " + after, x.listing(0, 0, 1), Math.max(0, 24 - after));
            }
        }
    }

    private static void pinsCount() {
        c.sentence(19, "How many pins of the node did not end (of one that crashed, too); NONE when there is no such node.");
        for (int crashes = 0; crashes <= 1; crashes++) {
            LeasedReferences x = new LeasedReferences();
            x.make(3, 0);
            for (int i = 1; i <= 6; i++) {
                x.pass(3, 0, 0, 0);
                c.due("after " + i, x.pins(3), i);
                x.tick(1);
            }
            if (crashes == 1) {
                x.crash(3);
            }
            int[] pins = {NONE, 0, 0, 0, 6, NONE};
            for (int node = -1; node <= 4; node++) {
                c.due("node " + node, x.pins(node), pins[node + 1]);
            }
            Scenes.ticks(x, 17);
            for (int left = 6; left >= 0; left--) {
                c.due("left", x.pins(3), left);
                x.tick(1);
            }
            c.due("none", x.pins(3), 0);
        }
        Supplier<LeasedReferences> taken = () -> {
            LeasedReferences x = Scenes.flying(Kind.TAKEN);
            x.crash(0);
            return x;
        };
        LeasedReferences x = taken.get();
        x.deliver(0);
        c.due("TAKEN does not end a crashed node's pin", x.pins(0), 1);
    }

    private static void outcomeParts() {
        c.sentence(20, "Of the node's call (of one that crashed, too): 0 whether it is [..] NONE when there is no such node or "
                + "which is not 0 .. 2.");
        LeasedReferences x = Scenes.known();
        outcome(x, 0, 0, 0);
        x.call(1, 0, -5);
        outcome(x, WAITING, 1, 0);
        Scenes.deliverOldest(x, 2);
        outcome(x, 2, 1, -5);
        Scenes.quietTicks(x, 23);
        x.call(1, 0, 9);
        outcome(x, WAITING, 2, -5);
        x.tick(3);
        outcome(x, FAILED, 2, -5);
        x.crash(1);
        outcome(x, FAILED, 2, -5);

        x = Scenes.known();
        x.call(1, 0, 7);
        Scenes.deliverOldest(x, 2);
        x.drop(0, 0);
        Scenes.quietTicks(x, 23);
        x.call(1, 0, 9);
        x.tick(1);
        x.collect(0);
        x.deliver(0);
        c.due("NOOBJECT comes", x.deliver(0), 1);
        outcome(x, FAILED, 2, 7);
    }

    private static void outcome(LeasedReferences x, int state, int number, int result) {
        int[] parts = {NONE, state, number, result, NONE};
        int[] none = {NONE, 0, 0, 0, NONE};
        for (int which = -1; which <= 3; which++) {
            c.due("which " + which, x.outcome(1, which), parts[which + 1]);
            c.due("another node, which " + which, x.outcome(3, which), none[which + 1]);
            c.due("node -1, which " + which, x.outcome(-1, which), NONE);
            c.due("node 4, which " + which, x.outcome(4, which), NONE);
        }
    }
}
