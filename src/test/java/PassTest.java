/** Promises 6, 18 and 19, and what PASS, TAKEN, DIRTY, LISTED, GONE and CLEAN do when they come (promise 8). */
public final class PassTest {
    private static final Checks c = new Checks();

    public static void main(String[] args) {
        pass();
        passOfSurrogate();
        passRefused();
        passLost();
        passStale();
        pinsEnd();
        pinsLooked();
        passComesNew();
        passComesToOwner();
        passComesToGood();
        passComesToPending();
        passComesToStale();
        passComesToFullNode();
        takenComes();
        dirtyComes();
        dirtyComesLate();
        dirtyAfterSlotIsUsedAgain();
        listedComes();
        listedBeforeFirst();
        goneComes();
        cleanComes();
        listing();
        c.end();
    }

    private static void pass() {
        c.sentence(6, "Passes what the root refers to on to root into of node to: a pin for its slot with the next id is made [..] "
                + "and PASS with the serial, this id and EXTRA is sent. Answers the id.");
        LeasedReferences x = new LeasedReferences();
        x.make(0, 0);
        x.make(2, 1);
        c.due("pass", x.pass(2, 1, 3, 2), 0);
        c.due("one message", x.flight(), 1);
        c.message(x, 0, Kind.PASS, 2, 3, 1, 0, 4 * 2 + 2);
        c.due("a pin", x.pins(2), 1);
        c.due("ids go over all nodes", x.pass(0, 0, 1, 0), 1);
        c.message(x, 1, Kind.PASS, 0, 1, 0, 1, 0);
        x.crash(1);
        c.due("to a crashed node", x.pass(0, 0, 1, 1), 2);
        c.message(x, 2, Kind.PASS, 0, 1, 0, 2, 4);
        x.drop(2, 1);
        c.due("the pin keeps the slot", x.collect(2), 0);
        x.make(2, 0);
        x.make(2, 2);
        x.pass(2, 0, 3, 0);
        x.drop(2, 0);
        x.drop(2, 2);
        c.due("each its own slot", x.collect(2), 1);
        c.due("slot 0", x.slot(2, 0, 0), 1);
        c.due("slot 1", x.slot(2, 1, 0), 1);
        c.due("slot 2", x.slot(2, 2, 0), 0);
    }

    private static void passOfSurrogate() {
        c.promise(6, "pass of a surrogate");
        LeasedReferences x = Scenes.known();
        c.due("pass", x.pass(1, 0, 3, 2), 1);
        c.message(x, 0, Kind.PASS, 1, 3, 0, 1, 4 * 2);
        x.deliver(0);
        c.due("node 3 asks the owner", x.message(0, 2), 0);
        x.drop(1, 0);
        c.due("the pin keeps the surrogate", x.collect(1), 0);
        Scenes.deliverOldest(x, 3);
        c.due("until TAKEN", x.collect(1), 1);
        c.due("node 3 has it GOOD", x.slot(3, 0, 2), 1);

        x = Scenes.known();
        c.due("back to its owner", x.pass(1, 0, 0, 2), 1);
        c.due("comes", x.deliver(0), 1);
        c.due("the owner's root refers to the object", x.root(0, 2), 0);
        c.message(x, 0, Kind.TAKEN, 0, 1, 0, 1, 0);
    }

    private static void passRefused() {
        c.promise(6, "pass refused");
        LeasedReferences x = Scenes.known();
        x.make(2, 0);
        x.crash(2);
        String before = Look.at(x);
        c.due("to itself", x.pass(0, 0, 0, 1), -1);
        c.due("root is nothing", x.pass(0, 1, 1, 1), -1);
        int[] nones = {-1, 4, Integer.MIN_VALUE, Integer.MAX_VALUE};
        for (int none : nones) {
            c.due("no node " + none, x.pass(none, 0, 1, 1), -1);
            c.due("to no node " + none, x.pass(0, 0, none, 1), -1);
            c.due("no root " + none, x.pass(0, none, 1, 1), -1);
            c.due("into no root " + none, x.pass(0, 0, 1, none), -1);
        }
        c.due("no root 3", x.pass(0, 3, 1, 1), -1);
        c.due("into no root 3", x.pass(0, 0, 1, 3), -1);
        c.due("crashed", x.pass(2, 0, 1, 1), -1);
        c.isTrue("refusals change nothing", before.equals(Look.at(x)));
        for (int i = 1; i <= 6; i++) {
            c.due("six pins, no id used up", x.pass(0, 0, 1, 1), i);
        }
        c.due("a seventh", x.pass(0, 0, 1, 1), -1);
        c.due("other nodes have their own", x.pass(1, 0, 0, 1), 7);
    }

    private static void passLost() {
        c.sentence(6, "a pin for its slot with the next id is made (also if what is sent is lost)");
        LeasedReferences x = new LeasedReferences();
        x.make(0, 0);
        x.pass(0, 0, 1, 0);
        Scenes.fillFlight(x);
        c.due("answers the id", x.pass(0, 0, 2, 0), 1);
        c.due("makes the pin", x.pins(0), 2);
        c.due("is lost", x.flight(), 32);
        c.due("the last is another", x.message(31, 4), 0);
    }

    private static void passStale() {
        c.promise(6, "pass of a surrogate that is not GOOD");
        LeasedReferences x = new LeasedReferences();
        x.make(0, 0);
        x.pass(0, 0, 1, 0);
        x.deliver(0);
        String before = Look.at(x);
        c.due("PENDING", x.pass(1, 0, 2, 0), -2);
        c.due("PENDING, to itself", x.pass(1, 0, 1, 0), -1);
        c.due("PENDING, into no root", x.pass(1, 0, 2, 3), -1);
        c.isTrue("changes nothing", before.equals(Look.at(x)));
        Scenes.deliverOldest(x, 3);
        c.due("GOOD, no id used up", x.pass(1, 0, 2, 0), 1);
        for (int i = 2; i <= 6; i++) {
            x.tick(1);
            x.pass(1, 0, 2, 0);
        }
        Scenes.loseAll(x);
        Scenes.quietTicks(x, 18);
        c.due("now", x.slot(1, 0, 3), 24);
        c.due("the last second", x.slot(1, 0, 2), 1);
        c.due("six pins", x.pins(1), 6);
        c.due("six pins, GOOD", x.pass(1, 0, 2, 0), -1);
        x.tick(1);
        c.due("STALE with five pins", x.pins(1), 5);
        c.due("STALE", x.pass(1, 0, 2, 0), -2);
        c.due("the object itself is no surrogate", x.pass(0, 0, 2, 0), 7);

        // six pins on an object while a surrogate is stale: NONE goes before STALE
        x = Scenes.known();
        Scenes.quietTicks(x, 24);
        x.make(1, 1);
        for (int i = 0; i < 6; i++) {
            x.pass(1, 1, 2, 0);
        }
        c.due("six pins and STALE", x.pass(1, 0, 2, 0), -1);
    }

    private static void pinsEnd() {
        c.promise(6, "a pin ends after 24");
        LeasedReferences x = new LeasedReferences();
        x.make(0, 0);
        x.tick(5);
        x.pass(0, 0, 1, 0);
        x.drop(0, 0);
        Scenes.loseAll(x);
        x.tick(12);
        x.tick(11);
        c.due("at 23", x.pins(0), 1);
        c.due("kept at 23", x.collect(0), 0);
        x.tick(1);
        c.due("at 24", x.pins(0), 0);
        c.due("freed at 24", x.collect(0), 1);

        x = new LeasedReferences();
        x.make(0, 0);
        for (int i = 0; i < 6; i++) {
            x.pass(0, 0, 1, 0);
            x.tick(1);
        }
        c.due("six", x.pass(0, 0, 1, 0), -1);
        Scenes.quietTicks(x, 18);
        c.due("one ended", x.pass(0, 0, 1, 0), 6);
        c.due("six again", x.pass(0, 0, 1, 0), -1);
    }

    private static void pinsLooked() {
        c.promise(19, "pins");
        LeasedReferences x = new LeasedReferences();
        x.make(0, 0);
        x.make(1, 0);
        x.pass(0, 0, 3, 0);
        x.pass(0, 0, 3, 0);
        x.pass(1, 0, 3, 0);
        c.due("node 0", x.pins(0), 2);
        c.due("node 1", x.pins(1), 1);
        c.due("node 3", x.pins(3), 0);
        c.due("node -1", x.pins(-1), -1);
        c.due("node 4", x.pins(4), -1);
        x.crash(0);
        c.due("crashed", x.pins(0), 2);
        x.tick(12);
        x.tick(12);
        c.due("crashed, ended by the clock", x.pins(0), 0);
    }

    private static void passComesNew() {
        c.promise(8, "PASS comes to a node without a surrogate");
        LeasedReferences x = new LeasedReferences();
        x.make(0, 0);
        x.make(1, 0);
        x.make(1, 1);
        x.make(1, 2);
        x.drop(1, 1);
        x.collect(1);
        x.tick(7);
        x.pass(0, 0, 1, 1);
        c.due("not dropped", x.deliver(0), 1);
        c.due("the least empty slot", x.root(1, 1), 1);
        c.due("a surrogate", x.slot(1, 1, 0), 2);
        c.due("PENDING", x.slot(1, 1, 2), 0);
        c.due("expiry", x.slot(1, 1, 3), 31);
        c.due("owner", x.slot(1, 1, 4), 0);
        c.due("one message", x.flight(), 1);
        c.message(x, 0, Kind.DIRTY, 1, 0, 0, 1, 7);
        c.due("the pin stays", x.pins(0), 1);
    }

    private static void passComesToOwner() {
        c.promise(8, "PASS comes to the owner");
        LeasedReferences x = Scenes.known();
        x.make(1, 2);
        x.pass(1, 0, 0, 1);
        x.copy(0);
        c.due("it has the object", x.deliver(0), 1);
        c.due("root", x.root(0, 1), 0);
        c.message(x, 1, Kind.TAKEN, 0, 1, 0, 1, 0);
        c.due("the pin ends", x.deliver(1), 1);
        c.due("pins", x.pins(1), 0);
        x.drop(0, 0);
        x.drop(0, 1);
        x.drop(1, 0);
        x.collect(1);
        x.deliver(1);
        c.due("the object is freed", x.collect(0), 1);
        c.due("the copy is dropped", x.deliver(0), 0);
        c.due("root", x.root(0, 1), -1);
        c.due("nothing sent", x.flight(), 0);
        c.due("no surrogate for its own", x.slot(0, 0, 0), 0);
    }

    private static void passComesToGood() {
        c.promise(8, "PASS comes to a GOOD surrogate");
        LeasedReferences x = Scenes.known();
        x.pass(0, 0, 1, 2);
        c.due("not dropped", x.deliver(0), 1);
        c.due("root", x.root(1, 2), 0);
        c.due("one message", x.flight(), 1);
        c.message(x, 0, Kind.TAKEN, 1, 0, 0, 1, 0);
        c.due("no second surrogate", x.slot(1, 1, 0), 0);
    }

    private static void passComesToPending() {
        c.promise(8, "PASS comes to a PENDING surrogate");
        LeasedReferences x = new LeasedReferences();
        x.make(0, 0);
        x.pass(0, 0, 2, 0);
        Scenes.deliverOldest(x, 4);
        x.pass(0, 0, 1, 0);
        x.deliver(0);
        x.pass(2, 0, 1, 1);
        c.due("not dropped", x.deliver(1), 1);
        c.due("root", x.root(1, 1), 0);
        c.due("nothing sent", x.flight(), 1);
        c.due("still PENDING", x.slot(1, 0, 2), 0);
        x.deliver(0);
        x.deliver(0);
        c.due("one TAKEN, for the latest pass", x.flight(), 1);
        c.message(x, 0, Kind.TAKEN, 1, 2, 0, 2, 0);
        x.deliver(0);
        c.due("node 2's pin ended", x.pins(2), 0);
        c.due("node 0's did not", x.pins(0), 1);
    }

    private static void passComesToStale() {
        c.promise(8, "PASS comes to a STALE surrogate");
        LeasedReferences x = Scenes.known();
        x.drop(1, 0);
        x.make(1, 1);
        x.link(1, 1, 0, 0);
        Scenes.quietTicks(x, 24);
        c.due("STALE", x.slot(1, 0, 2), 2);
        x.make(2, 0);
        x.pass(0, 0, 1, 2);
        c.due("not dropped", x.deliver(0), 1);
        c.due("root", x.root(1, 2), 0);
        c.due("PENDING", x.slot(1, 0, 2), 0);
        c.due("expiry", x.slot(1, 0, 3), 48);
        c.due("one message", x.flight(), 1);
        c.message(x, 0, Kind.DIRTY, 1, 0, 0, 5, 24);
        x.deliver(0);
        c.due("LISTED comes", x.deliver(0), 1);
        c.message(x, 0, Kind.TAKEN, 1, 0, 0, 1, 0);
        c.due("SENT was anew", x.tick(5), true);
        c.due("no DIRTY yet", x.flight(), 1);
        x.tick(1);
        c.due("a DIRTY after 6", x.flight(), 2);
    }

    private static void passComesToFullNode() {
        c.promise(8, "PASS comes to a full node");
        LeasedReferences x = Scenes.known();
        for (int i = 0; i < 7; i++) {
            x.make(1, 1);
        }
        x.make(0, 1);
        x.pass(0, 1, 1, 2);
        c.due("dropped", x.deliver(0), 0);
        c.due("root stays", x.root(1, 2), -1);
        c.due("nothing sent", x.flight(), 0);
        x.pass(0, 0, 1, 2);
        c.due("what it has needs no slot", x.deliver(0), 1);
        c.due("root", x.root(1, 2), 0);
        Scenes.loseAll(x);
        x.make(2, 0);
        x.pass(2, 0, 1, 0);
        x.collect(1);
        c.due("a slot became empty", x.deliver(0), 1);
        c.due("slot 1 was the least", x.root(1, 0), 1);
        c.due("numbers go on", x.message(0, 4), 2);
    }

    private static void takenComes() {
        c.promise(8, "TAKEN comes");
        LeasedReferences x = new LeasedReferences();
        x.make(0, 0);
        x.pass(0, 0, 1, 0);
        Scenes.deliverOldest(x, 3);
        x.copy(0);
        c.due("the pin ends", x.deliver(0), 1);
        c.due("pins", x.pins(0), 0);
        c.due("it ended already", x.deliver(0), 0);

        x = Scenes.known();
        x.pass(0, 0, 1, 0);
        x.pass(0, 0, 2, 0);
        x.deliver(0);
        Scenes.quietTicks(x, 1);
        x.pass(0, 0, 1, 0);
        x.deliver(0);
        c.due("the right pin", x.message(0, 4), 3);
        x.deliver(0);
        c.due("two did not end", x.pins(0), 2);
        Scenes.quietTicks(x, 23);
        c.due("they were the older ones", x.pins(0), 0);

        x = Scenes.known();
        x.pass(0, 0, 1, 0);
        x.deliver(0);
        x.tick(12);
        x.tick(12);
        c.due("it ended by the clock", x.deliver(0), 0);
    }

    private static void dirtyComes() {
        c.promise(8, "DIRTY comes");
        LeasedReferences x = new LeasedReferences();
        x.make(0, 0);
        x.pass(0, 0, 1, 0);
        x.deliver(0);
        x.copy(0);
        x.copy(0);
        x.tick(2);
        c.due("listed", x.deliver(0), 1);
        c.due("for 24 from now", x.listing(0, 0, 1), 24);
        c.message(x, 2, Kind.LISTED, 0, 1, 0, 1, 0);
        x.tick(3);
        c.due("the same number while the listing lasts", x.deliver(0), 1);
        c.due("is not for longer", x.listing(0, 0, 1), 21);
        c.message(x, 2, Kind.LISTED, 0, 1, 0, 1, 0);
        x.lose(1);
        x.lose(1);
        x.tick(12);
        x.tick(8);
        c.due("one more to go", x.listing(0, 0, 1), 1);
        x.copy(0);
        int flying = x.flight();
        c.due("still lasts", x.deliver(0), 1);
        c.due("LISTED is sent", x.message(x.flight() - 1, 0), Kind.LISTED);
        x.tick(1);
        c.due("ended", x.listing(0, 0, 1), 0);
        c.due("the copy", x.message(flying - 2, 4), 1);
        int before = x.flight();
        c.due("dropped when it ended", x.deliver(flying - 2), 0);
        c.due("nothing sent", x.flight(), before - 1);
    }

    private static void dirtyComesLate() {
        c.promise(8, "DIRTY comes when the object is gone");
        LeasedReferences x = new LeasedReferences();
        x.make(0, 0);
        x.tick(2);
        x.pass(0, 0, 1, 0);
        x.deliver(0);
        x.drop(0, 0);
        x.tick(12);
        x.tick(12);
        c.due("freed", x.collect(0), 1);
        c.due("not dropped", x.deliver(0), 1);
        c.message(x, x.flight() - 1, Kind.GONE, 0, 1, 0, 1, 2);
    }

    private static void dirtyAfterSlotIsUsedAgain() {
        c.promise(8, "LAST and the listing belong to the object, not to its slot");
        LeasedReferences x = Scenes.known();
        x.drop(1, 0);
        x.collect(1);
        x.deliver(0);
        x.drop(0, 0);
        c.due("freed", x.collect(0), 1);
        c.due("made anew", x.make(0, 0), 1);
        c.due("no listing", x.listing(0, 0, 1), 0);
        x.make(2, 0);
        x.pass(0, 0, 1, 0);
        x.deliver(0);
        c.due("number 3", x.message(0, 4), 3);
        x.deliver(0);
        x.crash(1);
        Scenes.loseAll(x);
        c.due("listed", x.listing(0, 0, 1), 24);
        c.due("others not", x.listing(0, 0, 2), 0);
        x.drop(0, 0);
        Scenes.quietTicks(x, 24);
        c.due("freed", x.collect(0), 1);
        x.make(0, 0);
        x.pass(0, 0, 2, 0);
        x.deliver(0);
        c.due("node 2's first number", x.message(0, 4), 1);
        c.due("is greater than 0", x.deliver(0), 1);
        c.due("listed", x.listing(0, 0, 2), 24);
    }

    private static void listedComes() {
        c.promise(8, "LISTED comes");
        LeasedReferences x = new LeasedReferences();
        x.make(0, 0);
        x.tick(1);
        x.pass(0, 0, 1, 0);
        x.deliver(0);
        x.tick(6);
        x.deliver(0);
        x.deliver(0);
        c.due("two LISTEDs", x.message(0, 5) + 10 * x.message(1, 5), 71);
        c.due("the later one first", x.deliver(1), 1);
        c.due("GOOD", x.slot(1, 0, 2), 1);
        c.due("EXTRA + 24", x.slot(1, 0, 3), 31);
        c.due("TAKEN", x.message(1, 0), Kind.TAKEN);
        c.due("the earlier one is not dropped", x.deliver(0), 1);
        c.due("but the expiry stays", x.slot(1, 0, 3), 31);
        c.due("no second TAKEN", x.flight(), 1);

        x = Scenes.known();
        Scenes.quietTicks(x, 23);
        x.tick(1);
        x.pass(0, 0, 1, 1);
        x.lose(0);
        c.due("STALE", x.slot(1, 0, 2), 2);
        x = Scenes.known();
        x.tick(6);
        x.deliver(0);
        x.tick(12);
        c.due("the expiry is still", x.slot(1, 0, 3), 24);
        x.tick(5);
        x.copy(0);
        c.due("just before", x.deliver(0), 1);
        c.due("expiry", x.slot(1, 0, 3), 30);
        x.tick(7);
        c.due("STALE", x.slot(1, 0, 2), 2);
        int last = 0;
        for (int k = 0; k < x.flight(); k++) {
            last = x.message(k, 0) == Kind.LISTED ? k : last;
        }
        c.due("a LISTED flies", x.message(last, 0), Kind.LISTED);
        c.due("dropped: STALE", x.deliver(last), 0);
        c.due("still STALE", x.slot(1, 0, 2), 2);

        x = new LeasedReferences();
        x.make(0, 0);
        x.pass(0, 0, 1, 0);
        Scenes.deliverOldest(x, 2);
        x.drop(1, 0);
        x.collect(1);
        c.due("LISTED", x.message(0, 0), Kind.LISTED);
        c.due("dropped: no surrogate", x.deliver(0), 0);
    }

    private static void listedBeforeFirst() {
        c.promise(8, "LISTED and GONE with a NUMBER less than FIRST");
        LeasedReferences x = new LeasedReferences();
        x.make(0, 0);
        x.pass(0, 0, 1, 0);
        x.copy(0);
        x.copy(0);
        x.deliver(0);
        x.deliver(2);
        x.drop(1, 0);
        x.collect(1);
        c.due("PASS again", x.deliver(0), 1);
        c.due("LISTED of the first surrogate", x.message(1, 0), Kind.LISTED);
        c.due("CLEAN", x.message(2, 0), Kind.CLEAN);
        c.due("DIRTY of the second", x.message(3, 4), 3);
        c.due("dropped", x.deliver(1), 0);
        c.due("still PENDING", x.slot(1, 0, 2), 0);
        c.due("DIRTY", x.deliver(2), 1);
        c.due("its LISTED", x.deliver(2), 1);
        c.due("GOOD", x.slot(1, 0, 2), 1);
        c.due("CLEAN comes late", x.deliver(1), 0);
        c.due("the listing lasts", x.listing(0, 0, 1), 24);

        x = new LeasedReferences();
        x.make(0, 0);
        x.pass(0, 0, 1, 0);
        x.copy(0);
        x.deliver(0);
        x.drop(0, 0);
        x.tick(12);
        x.tick(12);
        x.collect(0);
        x.drop(1, 0);
        int flying = x.flight();
        for (int i = 0; i < flying - 1; i++) {
            c.due("DIRTYs to a freed object", x.deliver(1), 1);
        }
        x.collect(1);
        c.due("PASS makes a new surrogate", x.deliver(0), 1);
        c.due("GONE", x.message(0, 0), Kind.GONE);
        c.due("dropped", x.deliver(0), 0);
        c.due("still PENDING", x.slot(1, 0, 2), 0);
    }

    private static void goneComes() {
        c.promise(8, "GONE comes");
        LeasedReferences x = new LeasedReferences();
        x.make(0, 0);
        x.pass(0, 0, 1, 0);
        x.drop(0, 0);
        x.tick(12);
        x.tick(12);
        x.collect(0);
        x.deliver(0);
        x.deliver(0);
        x.copy(0);
        c.due("GONE", x.message(0, 0), Kind.GONE);
        x.tick(2);
        c.due("not dropped", x.deliver(0), 1);
        c.due("STALE", x.slot(1, 0, 2), 2);
        c.due("expiry is the clock", x.slot(1, 0, 3), 26);
        c.due("no TAKEN", x.flight(), 1);
        x.tick(1);
        c.due("again: dropped", x.deliver(0), 0);
        c.due("expiry stays", x.slot(1, 0, 3), 26);
        x.tick(12);
        c.due("no more DIRTYs", x.flight(), 0);
    }

    private static void cleanComes() {
        c.promise(8, "CLEAN comes");
        LeasedReferences x = Scenes.known();
        x.make(2, 0);
        x.drop(1, 0);
        x.collect(1);
        c.message(x, 0, Kind.CLEAN, 1, 0, 0, 2, 0);
        x.copy(0);
        c.due("not dropped", x.deliver(0), 1);
        c.due("the listing ended", x.listing(0, 0, 1), 0);
        c.due("again: dropped", x.deliver(0), 0);

        x = Scenes.known();
        x.drop(1, 0);
        x.collect(1);
        x.drop(0, 0);
        x.tick(12);
        x.tick(12);
        c.due("also when the listing ended by the clock", x.deliver(0), 1);

        x = Scenes.known();
        x.drop(1, 0);
        x.collect(1);
        x.drop(0, 0);
        x.tick(12);
        x.tick(12);
        x.collect(0);
        c.due("dropped: no object", x.deliver(0), 0);
        c.due("nothing sent", x.flight(), 0);

        x = new LeasedReferences();
        x.make(0, 0);
        x.pass(0, 0, 1, 0);
        x.deliver(0);
        x.drop(1, 0);
        x.collect(1);
        c.due("CLEAN before its DIRTY", x.deliver(1), 1);
        c.due("the DIRTY is dropped", x.deliver(0), 0);
        c.due("no listing", x.listing(0, 0, 1), 0);
    }

    private static void listing() {
        c.promise(18, "listing");
        LeasedReferences x = Scenes.known();
        x.make(1, 1);
        x.tick(5);
        c.due("19 more", x.listing(0, 0, 1), 19);
        c.due("of another node", x.listing(0, 0, 2), 0);
        c.due("of the owner", x.listing(0, 0, 0), -1);
        c.due("client -1", x.listing(0, 0, -1), -1);
        c.due("client 4", x.listing(0, 0, 4), -1);
        c.due("an empty slot", x.listing(0, 1, 1), -1);
        c.due("a surrogate", x.listing(1, 0, 0), -1);
        c.due("an object of node 1", x.listing(1, 1, 0), 0);
        c.due("slot -1", x.listing(0, -1, 1), -1);
        c.due("slot 8", x.listing(0, 8, 1), -1);
        c.due("node -1", x.listing(-1, 0, 1), -1);
        c.due("node 4", x.listing(4, 0, 1), -1);
        x.crash(0);
        c.due("crashed", x.listing(0, 0, 1), 19);
        Scenes.quietTicks(x, 18);
        c.due("1 more", x.listing(0, 0, 1), 1);
        Scenes.quietTicks(x, 1);
        c.due("0", x.listing(0, 0, 1), 0);
        Scenes.quietTicks(x, 5);
        c.due("not less than 0", x.listing(0, 0, 1), 0);
    }
}
