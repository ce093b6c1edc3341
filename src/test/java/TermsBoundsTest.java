import java.util.function.Supplier;
import java.util.function.ToIntFunction;

/**
 * The sentences under 'Terms' that name a boundary, but for the coming of messages (ComingBoundsTest) and for
 * refused calls (RefusalsTest): each just below its boundary, at it, and beyond it.
 */
public final class TermsBoundsTest {
    private static final int NONE = LeasedReferences.NONE;
    private static final int PENDING = 0;
    private static final int GOOD = 1;
    private static final int STALE = 2;
    private static final Checks c = new Checks();

    public static void main(String[] args) {
        clockAtFirst();
        nodesSlotsRoots();
        serials();
        objectAtFirst();
        crashedRefusesCalls();
        crashedDropsMessages();
        crashedSendsNothing();
        crashedKeepsAll();
        staleByTheClock();
        owesOrNothing();
        lostWhen32Fly();
        comingHasRoomToSend();
        lostWhileTicking();
        lostWhileCollecting();
        numbersOfDirtysAndCleans();
        numbersOfCallsAndPasses();
        sentIsTheClockThen();
        becomesPending();
        callAtFirst();
        pinEndsByTheClock();
        pinEndsByTaken();
        keptByRoots();
        keptByPins();
        keptByCall();
        keptByListings();
        keptByFields();
        emptiedFromSlotZeroOn();
        usedFor512Calls();
        serialsToTheEnd();
        idsToTheEnd();
        numbersToTheEnd();
        c.end();
    }

    private static void clockAtFirst() {
        c.sentence("The CLOCK is 0 at first.");
        for (int clock = 0; clock <= 2; clock++) {
            LeasedReferences x = new LeasedReferences();
            Scenes.ticks(x, clock);
            x.make(0, 0);
            x.pass(0, 0, 1, 0);
            x.deliver(0);
            c.due("the clock", x.message(0, 5), clock);
            c.due("the clock + 24", x.slot(1, 0, 3), clock + 24);
        }
    }

    private static void nodesSlotsRoots() {
        c.sentence("NODES 0 .. 3 each have eight SLOTS 0 .. 7, three ROOTS 0 .. 2, and PINS.");
        LeasedReferences x = new LeasedReferences();
        for (int node = -1; node <= 4; node++) {
            boolean isNode = node >= 0 && node <= 3;
            c.due("pins of node " + node, x.pins(node), isNode ? 0 : NONE);
            for (int k = -1; k <= 8; k++) {
                boolean isSlot = isNode && k >= 0 && k <= 7;
                c.due("slot " + k + " of node " + node, x.slot(node, k, 0), isSlot ? 0 : NONE);
            }
            for (int root = -1; root <= 3; root++) {
                boolean isRoot = isNode && root >= 0 && root <= 2;
                c.due("drop of root " + root + " of node " + node, x.drop(node, root), isRoot);
                c.due("it is nothing", x.root(node, root), NONE);
            }
        }
        for (int i = 0; i <= 8; i++) {
            c.due("object " + i + " of node 3", x.make(3, 2), i <= 7 ? i : NONE);
            c.due("its slot", x.root(3, 2), Math.min(i, 7));
        }
    }

    private static void serials() {
        c.sentence("Objects have SERIALS 0, 1, 2, .. in the order in which they are made, over all nodes");
        LeasedReferences x = new LeasedReferences();
        int[] makers = {3, 0, 0, 2, 1, 3};
        for (int i = 0; i < makers.length; i++) {
            c.due("made by node " + makers[i], x.make(makers[i], 1), i);
        }
        x.drop(3, 1);
        x.drop(2, 1);
        x.collect(3);
        x.collect(2);
        c.due("a freed object's serial is not used again", x.make(3, 0), 6);
        c.due("the first slot holds it", x.slot(3, 0, 1), 6);
    }

    private static void objectAtFirst() {
        c.sentence("a VALUE (an int, 0 at first), and for each other node a LAST number, 0 at first, and a LISTING, "
                + "which lasts until some time; at first there is none.");
        LeasedReferences x = Scenes.flying(Kind.CALL);
        x.deliver(0);
        Scenes.deliverOldest(x, 1);
        x.drop(0, 0);
        x.drop(1, 0);
        x.collect(1);
        x.deliver(0);
        c.due("an object with a value, a LAST and once a listing is freed", x.collect(0), 1);
        x.make(0, 0);
        c.due("slot 0 again", x.root(0, 0), 0);
        c.due("VALUE", x.slot(0, 0, 2), 0);
        c.due("field 0", x.slot(0, 0, 3), NONE);
        c.due("field 1", x.slot(0, 0, 4), NONE);
        for (int client = 1; client <= 3; client++) {
            c.due("no listing of " + client, x.listing(0, 0, client), 0);
        }
        x.drop(0, 0);
        c.due("no listing keeps it", x.collect(0), 1);
        x.make(0, 0);
        x.pass(0, 0, 2, 0);
        x.deliver(0);
        c.due("NUMBER 1", x.message(0, 4), 1);
        x.deliver(0);
        c.due("is greater than LAST", x.listing(0, 0, 2), 24);
    }

    private static void crashedRefusesCalls() {
        c.sentence("A node that CRASHED does nothing any more: calls for it are refused");
        for (int crashes = 0; crashes <= 1; crashes++) {
            for (int node = 0; node <= 3; node++) {
                LeasedReferences x = new LeasedReferences();
                x.make((node + 1) % 4, 0);
                x.pass((node + 1) % 4, 0, node, 0);
                Scenes.deliverOldest(x, 4);
                x.make(node, 1);
                if (crashes == 1) {
                    x.crash(node);
                }
                boolean works = crashes == 0;
                c.due("make", x.make(node, 2), works ? 2 : NONE);
                c.due("link", x.link(node, 1, 0, 0), works);
                c.due("fetch", x.fetch(node, 1, 0, 2), works);
                c.due("pass", x.pass(node, 1, (node + 2) % 4, 0), works ? 1 : NONE);
                c.due("call", x.call(node, 0, 1), works ? 1 : NONE);
                c.due("collect", x.collect(node), works ? 1 : NONE);
                c.due("drop", x.drop(node, 0), works);
                c.due("crash", x.crash(node), works);
            }
        }
    }

    private static void crashedDropsMessages() {
        c.sentence("messages that come to it are dropped");
        for (int kind = Kind.PASS; kind <= Kind.NOOBJECT; kind++) {
            int flying = kind;
            LeasedReferences x = Scenes.flying(kind);
            c.due("one flies", x.flight(), 1);
            c.due("its kind", x.message(0, 0), kind);
            c.due("its receiver", x.message(0, 2), Scenes.receiver(kind));
            x.crash(1 - Scenes.receiver(kind));
            c.due("kind " + kind + " when its sender crashed", x.deliver(0), 1);
            Twins.dropped(c, "kind " + kind + " when its receiver crashed", () -> {
                LeasedReferences y = Scenes.flying(flying);
                y.crash(Scenes.receiver(flying));
                return y;
            }, 0);
        }
    }

    private static void crashedSendsNothing() {
        c.sentence("it sends nothing");
        for (int crashed = 0; crashed <= 1; crashed++) {
            LeasedReferences x = Scenes.known();
            x.tick(3);
            x.call(1, 0, 5);
            x.lose(0);
            x.tick(2);
            x.crash(crashed);
            x.tick(1);
            c.due("a DIRTY and a CALL, or nothing", x.flight(), crashed == 1 ? 0 : 2);
            Scenes.ticks(x, 30);
            c.due("nor later", x.flight() == 0, crashed == 1);
        }
    }

    private static void crashedKeepsAll() {
        c.sentence("and keeps all that it has.");
        for (int node = 0; node < 3; node++) {
            LeasedReferences x = Scenes.busy();
            x.crash(node);
            c.isTrue("node " + node, Look.at(x).equals(Look.at(Scenes.busy())));
        }
        LeasedReferences x = Scenes.busy();
        x.drop(1, 0);
        x.drop(1, 1);
        x.crash(1);
        Scenes.ticks(x, 30);
        x.collect(1);
        c.due("slot 0", x.slot(1, 0, 1), 2);
        c.due("slot 1", x.slot(1, 1, 1), 0);
        c.due("its call WAITS for ever", x.outcome(1, 0), 1);
    }

    private static void staleByTheClock() {
        c.sentence("it is STALE when the clock has come to its expiry; else it is PENDING or GOOD.");
        for (int made = 0; made <= 7; made += 7) {
            for (int state = PENDING; state <= GOOD; state++) {
                for (int after = 22; after <= 25; after++) {
                    LeasedReferences x = new LeasedReferences();
                    Scenes.ticks(x, made);
                    x.make(0, 0);
                    x.pass(0, 0, 1, 0);
                    Scenes.deliverOldest(x, state == GOOD ? 3 : 1);
                    Scenes.ticks(x, after);
                    c.due("expiry", x.slot(1, 0, 3), made + 24);
                    c.due("after " + after, x.slot(1, 0, 2), after < 24 ? state : STALE);
                    int due = after < 24 && state == GOOD ? 1 : LeasedReferences.STALE;
                    c.due("call after " + after, x.call(1, 0, 1), due);
                    c.due("pass after " + after, x.pass(1, 0, 2, 0), due);
                }
            }
        }
    }

    private static void owesOrNothing() {
        c.sentence("It OWES a pass (a sender and an id), or nothing.");
        LeasedReferences x = Scenes.pending();
        x.copy(0);
        x.deliver(0);
        x.deliver(0);
        c.due("the first LISTED", x.deliver(0), 1);
        c.message(x, 1, Kind.TAKEN, 1, 0, 0, 0, 0);
        c.due("the second LISTED", x.deliver(0), 1);
        c.due("sends no second TAKEN", x.flight(), 1);
    }

    private static void lostWhen32Fly() {
        c.sentence("what is sent is put at its end, but is lost when 32 are in flight.");
        for (int flying = 30; flying <= 32; flying++) {
            int due = Math.min(flying + 1, 32);
            LeasedReferences x = Scenes.flying(Kind.PASS);
            Scenes.fillFlight(x, flying);
            c.due("the pass is answered", x.pass(0, 0, 2, 1), 1);
            c.due("flight after pass", x.flight(), due);
            c.due("at its end", x.message(due - 1, 4), flying < 32 ? 1 : 0);
            c.due("a pin also if it is lost", x.pins(0), 2);

            x = Scenes.known();
            x.pass(0, 0, 1, 1);
            Scenes.fillFlight(x, flying);
            c.due("the call is answered", x.call(1, 0, 9), 1);
            c.due("flight after call", x.flight(), due);
            c.due("at its end", x.message(due - 1, 0), flying < 32 ? Kind.CALL : Kind.PASS);
            c.due("it WAITS also if it is lost", x.outcome(1, 0), 1);

            x = Scenes.flying(Kind.PASS);
            Scenes.fillFlight(x, flying);
            c.due("deliver makes room for what it sends", x.deliver(0), 1);
            c.due("flight after deliver", x.flight(), flying);
            c.due("at its end", x.message(flying - 1, 0), Kind.DIRTY);
        }
    }

    /** A message that comes is out of the flight before its receiver sends, so that is never lost. */
    private static void comingHasRoomToSend() {
        c.sentence("what is sent is put at its end, but is lost when 32 are in flight.");
        roomToSend("PASS", () -> Scenes.flying(Kind.PASS), Kind.DIRTY);
        roomToSend("PASS to the owner", () -> then(Scenes.known(), x -> x.pass(1, 0, 0, 1)), Kind.TAKEN);
        roomToSend("PASS to a GOOD one", () -> then(Scenes.known(), x -> x.pass(0, 0, 1, 1)), Kind.TAKEN);
        roomToSend("PASS to a STALE one", () -> then(Scenes.stale(), x -> x.pass(0, 0, 1, 1)), Kind.DIRTY);
        roomToSend("DIRTY", () -> Scenes.flying(Kind.DIRTY), Kind.LISTED);
        roomToSend("DIRTY again", () -> again(Scenes.flying(Kind.DIRTY)), Kind.LISTED);
        roomToSend("DIRTY for what is gone", () -> freed(Scenes.flying(Kind.PASS), 1), Kind.GONE);
        roomToSend("LISTED", () -> Scenes.flying(Kind.LISTED), Kind.TAKEN);
        roomToSend("CALL", () -> Scenes.flying(Kind.CALL), Kind.ANSWER);
        roomToSend("CALL again", () -> again(Scenes.flying(Kind.CALL)), Kind.ANSWER);
        roomToSend("CALL for what is gone", () -> freed(Scenes.flying(Kind.CALL), 0), Kind.NOOBJECT);
    }

    private static void roomToSend(String what, Supplier<LeasedReferences> scene, int sent) {
        for (int flying = 30; flying <= 32; flying++) {
            LeasedReferences x = scene.get();
            c.due(what + ": one flies", x.flight(), 1);
            Scenes.fillFlight(x, flying);
            c.due(what + " comes, of " + flying, x.deliver(0), 1);
            c.due(what + ": flight", x.flight(), flying);
            c.due(what + ": what is sent is at its end", x.message(flying - 1, 0), sent);
        }
    }

    private static LeasedReferences then(LeasedReferences x, ToIntFunction<LeasedReferences> call) {
        call.applyAsInt(x);
        return x;
    }

    /** The one message that flies came once, and flies again; what was sent when it came is lost. */
    private static LeasedReferences again(LeasedReferences x) {
        x.copy(0);
        x.deliver(0);
        x.lose(1);
        return x;
    }

    /** Node 0 frees its object, then so many messages come; the one that flies is the first there was, or its child. */
    private static LeasedReferences freed(LeasedReferences x, int come) {
        x.drop(0, 0);
        Scenes.ticks(x, 24);
        while (x.flight() > 1) {
            x.lose(1);
        }
        x.collect(0);
        Scenes.deliverOldest(x, come);
        return x;
    }

    /** Node 1 has two surrogates and a call that WAITS, all due at the same tick. */
    private static void lostWhileTicking() {
        c.sentence("what is sent is put at its end, but is lost when 32 are in flight.");
        int[] kinds = {Kind.DIRTY, Kind.DIRTY, Kind.CALL};
        for (int room = 0; room <= 4; room++) {
            LeasedReferences x = twoSurrogates();
            x.tick(3);
            x.call(1, 1, 4);
            x.lose(0);
            x.tick(2);
            x.pass(0, 2, 3, 0);
            Scenes.fillFlight(x, 32 - room);
            x.tick(1);
            c.due("flight", x.flight(), 32 - room + Math.min(room, 3));
            for (int i = 0; i < Math.min(room, 3); i++) {
                c.due("place " + (32 - room + i), x.message(32 - room + i, 0), kinds[i]);
                c.due("serial", x.message(32 - room + i, 3), i == 0 ? 0 : 1);
            }
            Scenes.loseAll(x);
            x.tick(2);
            c.due("lost ones were sent, too: 2 ago", x.flight(), 0);
            x.tick(1);
            c.due("only the CALL at 3 ago", x.flight(), 1);
            c.due("CALL", x.message(0, 0), Kind.CALL);
            x.tick(3);
            c.due("the DIRTYs at 6 ago", x.message(1, 0), Kind.DIRTY);
            c.due("lost ones used up their numbers", x.message(1, 4), 5);
        }
    }

    private static void lostWhileCollecting() {
        c.sentence("what is sent is put at its end, but is lost when 32 are in flight.");
        for (int room = 0; room <= 3; room++) {
            LeasedReferences x = twoSurrogates();
            x.drop(1, 0);
            x.drop(1, 1);
            x.pass(0, 2, 1, 2);
            Scenes.fillFlight(x, 32 - room);
            c.due("both slots become empty", x.collect(1), 2);
            c.due("flight", x.flight(), 32 - room + Math.min(room, 2));
            for (int i = 0; i < Math.min(room, 2); i++) {
                c.message(x, 32 - room + i, Kind.CLEAN, 1, 0, i, 3 + i, 0);
            }
            x.deliver(0);
            c.due("lost ones used up their numbers", x.message(x.flight() - 1, 4), 5);
        }
    }

    /** Node 1 has GOOD surrogates for objects 0 and 1 of node 0 at slots and roots 0 and 1; nothing flies. */
    private static LeasedReferences twoSurrogates() {
        LeasedReferences x = new LeasedReferences();
        x.make(0, 0);
        x.make(0, 1);
        x.make(0, 2);
        x.pass(0, 0, 1, 0);
        x.pass(0, 1, 1, 1);
        Scenes.deliverOldest(x, 8);
        return x;
    }

    private static void numbersOfDirtysAndCleans() {
        c.sentence("Each node numbers its DIRTYs and CLEANs together 1, 2, 3, ..");
        LeasedReferences x = new LeasedReferences();
        x.make(0, 0);
        for (int round = 0; round < 3; round++) {
            x.pass(0, 0, 1, 0);
            x.deliver(0);
            c.message(x, 0, Kind.DIRTY, 1, 0, 0, 2 * round + 1);
            x.lose(0);
            x.drop(1, 0);
            x.collect(1);
            c.message(x, 0, Kind.CLEAN, 1, 0, 0, 2 * round + 2);
            x.lose(0);
        }
        x.pass(0, 0, 2, 0);
        x.deliver(0);
        c.due("node 2 has its own", x.message(0, 4), 1);
    }

    private static void numbersOfCallsAndPasses() {
        c.sentence("its calls 1, 2, 3, ..; passes have ids 0, 1, 2, .. over all nodes.");
        LeasedReferences x = Scenes.known();
        x.pass(0, 0, 2, 0);
        Scenes.deliverOldest(x, 4);
        for (int number = 1; number <= 3; number++) {
            c.due("node 1's call", x.call(1, 0, 1), number);
            Scenes.deliverOldest(x, 2);
        }
        c.due("node 2 has its own", x.call(2, 0, 1), 1);
        c.due("after ids 0 and 1", x.pass(1, 0, 3, 0), 2);
        c.due("of another node", x.pass(0, 0, 3, 1), 3);
        c.due("of a third", x.pass(2, 0, 3, 2), 4);
    }

    private static void sentIsTheClockThen() {
        c.sentence("the surrogate's SENT is the clock then.");
        LeasedReferences x = new LeasedReferences();
        x.tick(4);
        x.make(0, 0);
        x.pass(0, 0, 1, 0);
        x.deliver(0);
        c.message(x, 0, Kind.DIRTY, 1, 0, 0, 1, 4);
        for (int clock = 5; clock <= 17; clock++) {
            x.tick(1);
            c.due("DIRTYs at " + clock, x.flight(), clock < 10 ? 1 : clock < 16 ? 2 : 3);
        }
        c.message(x, 1, Kind.DIRTY, 1, 0, 0, 2, 10);
        c.message(x, 2, Kind.DIRTY, 1, 0, 0, 3, 16);
    }

    private static void becomesPending() {
        c.sentence("A surrogate BECOMES PENDING: it is PENDING, its expiry is the clock + 24, a DIRTY is sent for it, "
                + "its FIRST is the number of that DIRTY, and it OWES the pass that came.");
        LeasedReferences x = Scenes.known();
        x.pass(0, 0, 2, 0);
        Scenes.deliverOldest(x, 4);
        x.tick(6);
        x.deliver(1);
        x.deliver(1);
        Scenes.quietTicks(x, 19);
        c.due("clock 25, STALE since 24", x.slot(1, 0, 2), STALE);
        c.due("node 2's is GOOD to 30", x.slot(2, 0, 3) * 10 + x.slot(2, 0, 2), 301);
        c.due("pass from node 2", x.pass(2, 0, 1, 2), 2);
        c.due("it comes", x.deliver(0), 1);
        c.due("PENDING", x.slot(1, 0, 2), PENDING);
        c.due("the clock + 24", x.slot(1, 0, 3), 49);
        c.due("one DIRTY", x.flight(), 1);
        c.message(x, 0, Kind.DIRTY, 1, 0, 0, 5, 25);
        x.deliver(0);
        x.deliver(0);
        c.message(x, 0, Kind.TAKEN, 1, 2, 0, 2, 0);
    }

    private static void callAtFirst() {
        c.sentence("CALLS. A node has a call, which is 0 NONE at first, 1 WAITING, 2 DONE or 3 FAILED");
        LeasedReferences x = Scenes.known();
        c.due("at first", x.outcome(1, 0), 0);
        x.call(1, 0, 1);
        c.due("WAITING", x.outcome(1, 0), 1);
        Scenes.deliverOldest(x, 2);
        c.due("DONE", x.outcome(1, 0), 2);
        x = Scenes.flying(Kind.NOOBJECT);
        x.deliver(0);
        c.due("FAILED", x.outcome(1, 0), 3);
    }

    private static void pinEndsByTheClock() {
        c.sentence("it ends when TAKEN comes for it, or when the clock has come to the time it was made + 24.");
        for (int made = 0; made <= 5; made += 5) {
            for (int after = 22; after <= 25; after++) {
                LeasedReferences x = new LeasedReferences();
                Scenes.ticks(x, made);
                x.make(0, 0);
                x.pass(0, 0, 1, 0);
                x.lose(0);
                Scenes.ticks(x, after);
                c.due("pins after " + after, x.pins(0), after < 24 ? 1 : 0);
            }
        }
    }

    private static void pinEndsByTaken() {
        c.sentence("it ends when TAKEN comes for it, or when the clock has come to the time it was made + 24.");
        LeasedReferences x = Scenes.flying(Kind.TAKEN);
        x.pass(0, 0, 2, 0);
        c.due("before", x.pins(0), 2);
        x.deliver(0);
        c.due("after TAKEN for the first", x.pins(0), 1);
        x.lose(0);
        x.pass(0, 0, 1, 0);
        x.deliver(0);
        x.deliver(0);
        c.due("after TAKEN for the third", x.pins(0), 1);
        Scenes.ticks(x, 23);
        c.due("the second goes on", x.pins(0), 1);
        x.tick(1);
        c.due("to its 24", x.pins(0), 0);
    }

    private static void keptByRoots() {
        c.sentence("COLLECTING at a node: the slots are KEPT to which a root refers");
        for (int root = 0; root <= 2; root++) {
            LeasedReferences x = new LeasedReferences();
            x.make(0, root);
            c.due("root " + root, x.collect(0), 0);
            x.drop(0, root);
            c.due("none", x.collect(0), 1);
        }
        c.due("a STALE surrogate at a root", Scenes.stale().collect(1), 0);
    }

    private static void keptByPins() {
        c.sentence("those of pins that did not end");
        for (int after = 22; after <= 25; after++) {
            LeasedReferences x = new LeasedReferences();
            x.make(0, 0);
            x.make(0, 1);
            x.pass(0, 1, 1, 0);
            x.lose(0);
            x.drop(0, 1);
            Scenes.ticks(x, after);
            c.due("freed after " + after, x.collect(0), after < 24 ? 0 : 1);
            c.due("slot 1", x.slot(0, 1, 0), after < 24 ? 1 : 0);
        }
        LeasedReferences x = Scenes.flying(Kind.PASS);
        for (int i = 1; i < 6; i++) {
            x.make(0, 0);
            x.pass(0, 0, 1, 0);
        }
        x.make(0, 0);
        x.drop(0, 0);
        c.due("six pins keep six", x.collect(0), 1);
        c.due("slot 5", x.slot(0, 5, 0), 1);
        c.due("slot 6", x.slot(0, 6, 0), 0);

        x = Scenes.known();
        Scenes.quietTicks(x, 23);
        x.pass(1, 0, 2, 0);
        x.drop(1, 0);
        x.tick(1);
        c.due("a surrogate that became STALE", x.slot(1, 0, 2), STALE);
        c.due("is kept by its pin", x.collect(1), 0);
    }

    private static void keptByCall() {
        c.sentence("that of the surrogate of a call that WAITS");
        LeasedReferences x = twoSurrogates();
        x.call(1, 1, 5);
        x.drop(1, 0);
        x.drop(1, 1);
        c.due("WAITS: the other one is freed", x.collect(1), 1);
        c.due("slot 1", x.slot(1, 1, 0), 2);
        x.deliver(0);
        x.deliver(1);
        c.due("DONE", x.outcome(1, 0), 2);
        c.due("not kept", x.collect(1), 1);

        x = Scenes.flying(Kind.NOOBJECT);
        x.drop(1, 0);
        c.due("WAITS, though STALE", x.collect(1), 0);
        x.deliver(0);
        c.due("FAILED", x.outcome(1, 0), 3);
        c.due("not kept", x.collect(1), 1);
    }

    private static void keptByListings() {
        c.sentence("those of objects of which some listing lasts");
        for (int pair = 0; pair < 16; pair++) {
            int owner = pair / 4;
            int client = pair % 4;
            for (int after = 22; after <= 25 && owner != client; after++) {
                LeasedReferences x = new LeasedReferences();
                x.make(owner, 0);
                x.pass(owner, 0, client, 0);
                Scenes.deliverOldest(x, 4);
                x.drop(owner, 0);
                Scenes.ticks(x, after);
                c.due("listing after " + after, x.listing(owner, 0, client), Math.max(0, 24 - after));
                c.due("freed after " + after, x.collect(owner), after < 24 ? 0 : 1);
            }
        }
        LeasedReferences x = Scenes.flying(Kind.CLEAN);
        x.drop(0, 0);
        c.due("before CLEAN comes", x.collect(0), 0);
        x.deliver(0);
        c.due("when CLEAN came", x.collect(0), 1);
    }

    private static void keptByFields() {
        c.sentence("and those that the fields of kept objects refer to.");
        for (int field = 0; field <= 1; field++) {
            LeasedReferences x = chainUp(field);
            c.due("all eight of a chain from slot 0 to 7", x.collect(0), 0);
            x.fetch(0, 1, field, 1);
            c.due("all but its head", x.collect(0), 1);
            c.due("slot 0", x.slot(0, 0, 0), 0);
            x.drop(0, 1);
            c.due("none: fields of what is not kept keep nothing", x.collect(0), 7);

            x = chainDown(field);
            c.due("all eight of a chain from slot 7 to 0", x.collect(0), 0);
            x.link(0, 1, field, -1);
            c.due("its head alone", x.collect(0), 7);
            c.due("slot 7", x.slot(0, 7, 0), 1);
        }
        LeasedReferences x = new LeasedReferences();
        x.make(0, 0);
        x.link(0, 0, 0, 0);
        x.link(0, 0, 1, 0);
        x.drop(0, 0);
        c.due("an object that refers to itself alone", x.collect(0), 1);
        keptByFieldsOfWhatIsNoRoots();
        x = twoSurrogates();
        x.make(1, 2);
        x.link(1, 2, 0, 0);
        x.link(1, 2, 1, 1);
        x.drop(1, 0);
        x.drop(1, 1);
        c.due("surrogates in fields", x.collect(1), 0);
        x.link(1, 2, 0, -1);
        c.due("one of them no more", x.collect(1), 1);
        c.due("slot 0", x.slot(1, 0, 0), 0);
    }

    /** Of three objects the first is kept by a pin, or by a listing, and refers to the second, which refers to the third. */
    private static void keptByFieldsOfWhatIsNoRoots() {
        for (int listed = 0; listed <= 1; listed++) {
            LeasedReferences x = new LeasedReferences();
            for (int root = 0; root <= 2; root++) {
                x.make(0, root);
            }
            x.link(0, 0, 1, 1);
            x.link(0, 1, 0, 2);
            x.pass(0, 0, 1, 0);
            Scenes.deliverOldest(x, listed == 1 ? 4 : 0);
            c.due("pins", x.pins(0), listed == 1 ? 0 : 1);
            for (int root = 0; root <= 2; root++) {
                x.drop(0, root);
            }
            c.due("all three", x.collect(0), 0);
            Scenes.quietTicks(x, 23);
            c.due("to the end", x.collect(0), 0);
            x.tick(1);
            c.due("and none then", x.collect(0), 3);
        }
    }

    /** Eight objects of node 0, each in the field of the one in the slot before; only root 1 refers to the first. */
    private static LeasedReferences chainUp(int field) {
        LeasedReferences x = new LeasedReferences();
        x.make(0, 1);
        x.make(0, 0);
        x.link(0, 1, field, 0);
        for (int k = 2; k < 8; k++) {
            x.make(0, 2);
            x.link(0, 0, field, 2);
            x.fetch(0, 0, field, 0);
        }
        x.drop(0, 0);
        x.drop(0, 2);
        return x;
    }

    /** Eight objects of node 0, each in the field of the one in the slot after; only root 1 refers to the last. */
    private static LeasedReferences chainDown(int field) {
        LeasedReferences x = new LeasedReferences();
        x.make(0, 0);
        for (int k = 1; k < 8; k++) {
            x.make(0, k % 2);
            x.link(0, k % 2, field, 1 - k % 2);
        }
        x.drop(0, 0);
        return x;
    }

    private static void emptiedFromSlotZeroOn() {
        c.sentence("The other slots that are not empty become empty, from slot 0 on; for each surrogate among them "
                + "CLEAN is sent to the owner, with the serial, the node's next number and EXTRA 0.");
        int[] owners = {3, 0, 2, 2, 3, 0};
        LeasedReferences x = new LeasedReferences();
        for (int owner : owners) {
            x.make(owner, 1);
            x.make(owner, 0);
            x.pass(owner, 0, 1, 0);
            Scenes.deliverOldest(x, 4);
        }
        x.make(1, 0);
        c.due("seven are there, six not kept", x.collect(1), 6);
        c.due("six CLEANs", x.flight(), 6);
        for (int k = 0; k < 6; k++) {
            c.message(x, k, Kind.CLEAN, 1, owners[k], 2 * k + 1, 7 + k, 0);
            c.due("slot " + k, x.slot(1, k, 0), 0);
        }
        c.due("slot 6 is kept", x.slot(1, 6, 0), 1);
        c.due("again", x.collect(1), 0);
        c.due("an empty node", new LeasedReferences().collect(1), 0);
        x.drop(1, 0);
        c.due("the object", x.collect(1), 1);
        c.due("objects send no CLEAN", x.flight(), 6);
    }

    private static void usedFor512Calls() {
        c.sentence("An object is used for at most 512 calls after it has been made; what later calls answer is free.");
        LeasedReferences x = new LeasedReferences();
        for (int call = 1; call <= 508; call++) {
            c.due("tick, call " + call, x.tick(12), true);
        }
        c.due("call 509", x.make(0, 0), 0);
        c.due("call 510", x.pass(0, 0, 1, 0), 0);
        c.due("call 511", x.deliver(0), 1);
        c.due("call 512", x.message(0, 5), 508 * 12);

        x = Scenes.known();
        for (int number = 1; number <= 168; number++) {
            c.due("call", x.call(1, 0, 2), number);
            x.deliver(0);
            x.deliver(0);
        }
        c.due("call 511", x.outcome(1, 1), 168);
        c.due("call 512", x.slot(0, 0, 2), 336);

        x = new LeasedReferences();
        for (int serial = 0; serial < 170; serial++) {
            c.due("make", x.make(2, 0), serial);
            x.drop(2, 0);
            x.collect(2);
        }
        c.due("call 511", x.make(2, 0), 170);
        c.due("call 512", x.collect(2), 0);
    }

    private static void serialsToTheEnd() {
        c.sentence("Objects have SERIALS 0, 1, 2, .. in the order in which they are made, over all nodes");
        LeasedReferences x = new LeasedReferences();
        int serial = 0;
        for (int round = 0; round < 15; round++) {
            for (int node = 0; node <= 3; node++) {
                for (int i = round == 0 ? 0 : 1; i < 8; i++) {
                    c.due("serial", x.make(node, 0), serial);
                    serial++;
                }
                c.due("all but the newest", x.collect(node), 7);
            }
        }
        c.due("made", serial, 424);
        c.due("the newest", x.slot(3, x.root(3, 0), 1), 423);
        c.due("pass", x.pass(3, 0, 0, 1), 0);
        c.message(x, 0, Kind.PASS, 3, 0, 423, 0, 7);
    }

    private static void idsToTheEnd() {
        c.sentence("passes have ids 0, 1, 2, .. over all nodes.");
        LeasedReferences x = new LeasedReferences();
        for (int node = 0; node <= 3; node++) {
            x.make(node, 0);
        }
        int id = 0;
        for (int round = 0; round < 17; round++) {
            for (int i = 0; i < 24; i++) {
                c.due("id", x.pass(i % 4, 0, (i + 1) % 4, 0), id);
                id++;
            }
            x.tick(12);
            x.tick(12);
        }
        x.lose(0);
        c.due("the next", x.pass(2, 0, 1, 1), 408);
        c.message(x, 31, Kind.PASS, 2, 1, 2, 408, 6);
    }

    /** Node 1 has six surrogates, which become PENDING again and again and are never listed: 24 DIRTYs in 24. */
    private static void numbersToTheEnd() {
        c.sentence("Each node numbers its DIRTYs and CLEANs together 1, 2, 3, ..");
        LeasedReferences x = new LeasedReferences();
        for (int i = 0; i < 6; i++) {
            x.make(i < 3 ? 0 : 2, i % 3);
        }
        for (int round = 0; round < 20; round++) {
            for (int i = 0; i < 6; i++) {
                if (round > 0) {
                    x.lose(0);
                }
                c.due("pass", x.pass(i < 3 ? 0 : 2, i % 3, 1, 0), 6 * round + i);
                c.due("PASS comes", x.deliver(round == 0 ? i : round == 1 ? 23 : 31), 1);
            }
            x.tick(12);
            x.tick(12);
        }
        Scenes.loseAll(x);
        x.drop(1, 0);
        c.due("six are freed", x.collect(1), 6);
        c.message(x, 5, Kind.CLEAN, 1, 2, 5, 20 * 24 + 6, 0);
    }
}
