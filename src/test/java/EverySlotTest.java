/**
 * What the document says of messages it says of each two nodes and of each slot: an object in each slot of each owner,
 * and a surrogate for it in each slot of each client. The clock, the serials, the ids and the numbers do not begin with
 * 0, and a PASS of another object stays in flight all the time, so that nothing is right by chance.
 */
public final class EverySlotTest {
    private static final int NONE = LeasedReferences.NONE;
    private static final int PENDING = 0;
    private static final int GOOD = 1;
    private static final int STALE = 2;
    /** When the scene begins. */
    private static final int BEGIN = 5;
    private static final Checks c = new Checks();

    private final LeasedReferences x = new LeasedReferences();
    private final int owner;
    private final int client;
    private final int third;
    private final int at;
    private final int k;
    private final int serial;
    private final String pair;

    /** The owner has the object in slot at, its root 0 refers to it; the client's slots below k are held. */
    private EverySlotTest(int owner, int at, int client, int k) {
        this.owner = owner;
        this.at = at;
        this.client = client;
        this.k = k;
        third = thirdNode(owner, client);
        pair = "object of " + owner + " in slot " + at + ", surrogate of " + client + " in slot " + k + ": ";
        x.tick(BEGIN);
        x.make(third, 0);
        x.pass(third, 0, client, 2);
        for (int i = 0; i < at; i++) {
            x.make(owner, 1);
        }
        serial = x.make(owner, 0);
        for (int i = 0; i < k; i++) {
            x.make(client, 0);
        }
    }

    private static int thirdNode(int owner, int client) {
        int node = 0;
        while (node == owner || node == client) {
            node++;
        }
        return node;
    }

    public static void main(String[] args) {
        for (int owner = 0; owner < 4; owner++) {
            for (int client = 0; client < 4; client++) {
                for (int i = 0; i < 64 && client != owner; i++) {
                    between(owner, i / 8, client, i % 8);
                }
            }
            takenForEachPin(owner);
            everyTwoObjects(owner);
        }
        c.end();
    }

    private static void between(int owner, int at, int client, int k) {
        new EverySlotTest(owner, at, client, k).wholeLife();
        new EverySlotTest(owner, at, client, k).gone();
        new EverySlotTest(owner, at, client, k).staleAgain();
        new EverySlotTest(owner, at, client, k).owesThePassThatCameLast();
        new EverySlotTest(owner, at, client, k).olderThanFirst(Kind.LISTED);
        new EverySlotTest(owner, at, client, k).olderThanFirst(Kind.GONE);
        new EverySlotTest(owner, at, client, k).dirtyAgain();
        new EverySlotTest(owner, at, client, k).listedInAnotherOrder();
        new EverySlotTest(owner, at, client, k).takenAtTheLast();
        new EverySlotTest(owner, at, client, k).callAgain();
        new EverySlotTest(owner, at, client, k).callForWhatIsGone();
        new EverySlotTest(owner, at, client, k).callFails();
    }

    // ---- what a scene consists of ----

    private void due(String what, int got, int want) {
        c.due(pair + what, got, want);
    }

    /** The newest message; before it stand only copies of the PASS of another object. */
    private void newest(int... parts) {
        c.message(x, x.flight() - 1, parts);
    }

    /** The newest message comes; what it sends comes to a place where the PASS of another object has been. */
    private void come(String what) {
        int place = x.flight() - 1;
        x.copy(0);
        due(what + " comes", x.deliver(place), 1);
    }

    private void loseNewest() {
        x.lose(x.flight() - 1);
    }

    /** Passes the object on: GOOD. The pass is 1, the DIRTY 1. */
    private void passedOn() {
        due("pass", x.pass(owner, 0, client, 1), 1);
        newest(Kind.PASS, owner, client, serial, 1, 4 + owner);
        come("PASS");
        due("its slot", x.root(client, 1), k);
        due("PENDING", x.slot(client, k, 2), PENDING);
        newest(Kind.DIRTY, client, owner, serial, 1, BEGIN);
        come("DIRTY");
        due("listed", x.listing(owner, at, client), 24);
        newest(Kind.LISTED, owner, client, serial, 1, BEGIN);
        come("LISTED");
        due("GOOD", x.slot(client, k, 2), GOOD);
        newest(Kind.TAKEN, client, owner, serial, 1, 0);
        come("TAKEN");
        due("its pin ended", x.pins(owner), 0);
    }

    private void passedToTheThird(int id) {
        due("pass to the third", x.pass(owner, 0, third, 1), id);
        come("PASS to the third");
        come("DIRTY of the third");
        come("LISTED to the third");
        come("TAKEN from the third");
    }

    // ---- the scenes ----

    private void wholeLife() {
        c.sentence("When a message comes to a node:");
        passedOn();
        calledAndRenewed();
        passedBack();
        passedAgain();
        freed();
        slotsUsedAgain();
    }

    private void calledAndRenewed() {
        due("call", x.call(client, 1, 3), 1);
        newest(Kind.CALL, client, owner, serial, 1, 3);
        come("CALL");
        due("the value", x.slot(owner, at, 2), 3);
        newest(Kind.ANSWER, owner, client, serial, 1, 3);
        come("ANSWER");
        due("DONE", x.outcome(client, 0), 2);
        x.tick(6);
        newest(Kind.DIRTY, client, owner, serial, 2, BEGIN + 6);
        come("DIRTY 2");
        newest(Kind.LISTED, owner, client, serial, 2, BEGIN + 6);
        come("LISTED 2");
        due("renewed", x.slot(client, k, 3), BEGIN + 30);
    }

    private void passedBack() {
        due("pass back", x.pass(client, 1, owner, 2), 2);
        newest(Kind.PASS, client, owner, serial, 2, 8 + owner);
        come("PASS to the owner");
        due("the owner's root", x.root(owner, 2), at);
        newest(Kind.TAKEN, owner, client, serial, 2, 0);
        come("TAKEN from the owner");
        due("its pin ended", x.pins(client), 0);
    }

    private void passedAgain() {
        due("pass once more", x.pass(owner, 2, client, 2), 3);
        come("PASS to a GOOD one");
        due("no second surrogate", x.root(client, 2), k);
        newest(Kind.TAKEN, client, owner, serial, 3, 0);
        come("TAKEN for the GOOD one");
    }

    private void freed() {
        x.drop(owner, 0);
        x.drop(owner, 1);
        x.drop(owner, 2);
        due("all but what is listed", x.collect(owner), at);
        due("which is kept when it is alone, too", x.collect(owner), 0);
        x.drop(client, 0);
        x.drop(client, 1);
        x.drop(client, 2);
        due("all of the client", x.collect(client), k + 1);
        newest(Kind.CLEAN, client, owner, serial, 3, 0);
        int flying = x.flight();
        come("CLEAN");
        due("nothing is sent", x.flight(), flying);
        due("the object is freed", x.collect(owner), 1);
        due("its slot is empty", x.slot(owner, at, 0), 0);
    }

    private void slotsUsedAgain() {
        for (int i = 0; i <= at; i++) {
            x.make(owner, 0);
        }
        due("the object's slot again", x.root(owner, 0), at);
        due("its value", x.slot(owner, at, 2), 0);
        due("no listing", x.listing(owner, at, client), 0);
        for (int i = 0; i < k; i++) {
            x.make(client, 0);
        }
        due("the PASS of another object comes", x.deliver(0), 1);
        due("the surrogate's slot again", x.root(client, 2), k);
        due("PENDING", x.slot(client, k, 2), PENDING);
        due("its expiry", x.slot(client, k, 3), BEGIN + 30);
        due("its owner", x.slot(client, k, 4), third);
        newest(Kind.DIRTY, client, third, 0, 4, BEGIN + 6);
        due("its DIRTY comes", x.deliver(x.flight() - 1), 1);
        due("its LISTED comes", x.deliver(x.flight() - 1), 1);
        newest(Kind.TAKEN, client, third, 0, 0, 0);
    }

    /** The object is freed before the PASS comes. */
    private void gone() {
        c.sentence("GONE: its expiry becomes the clock.");
        x.pass(owner, 0, client, 1);
        x.drop(owner, 0);
        x.drop(owner, 1);
        x.tick(12);
        x.tick(12);
        due("freed", x.collect(owner), at + 1);
        come("PASS");
        newest(Kind.DIRTY, client, owner, serial, 1, BEGIN + 24);
        come("DIRTY");
        newest(Kind.GONE, owner, client, serial, 1, BEGIN + 24);
        x.tick(2);
        due("PENDING", x.slot(client, k, 2), PENDING);
        come("GONE");
        due("STALE", x.slot(client, k, 2), STALE);
        due("its expiry", x.slot(client, k, 3), BEGIN + 26);
    }

    /** A LISTED for DIRTY 4 comes when the surrogate has become PENDING again, with DIRTY 5. */
    private void staleAgain() {
        c.sentence("If it has a STALE one, this BECOMES PENDING, and the root refers to it.");
        passedOn();
        x.tick(12);
        x.tick(12);
        due("STALE", x.slot(client, k, 2), STALE);
        newest(Kind.DIRTY, client, owner, serial, 4, BEGIN + 18);
        come("DIRTY 4");
        x.tick(2);
        passedToTheThird(2);
        due("pass from the third", x.pass(third, 1, client, 0), 3);
        come("PASS");
        due("the root", x.root(client, 0), k);
        due("PENDING", x.slot(client, k, 2), PENDING);
        due("its expiry", x.slot(client, k, 3), BEGIN + 50);
        newest(Kind.DIRTY, client, owner, serial, 5, BEGIN + 26);
        int listed = placeOf(Kind.LISTED);
        due("LISTED 4 is dropped", x.deliver(listed), 0);
        due("PENDING", x.slot(client, k, 2), PENDING);
        x.tick(5);
        int flying = x.flight();
        newest(Kind.DIRTY, client, owner, serial, 5, BEGIN + 26);
        come("DIRTY 5");
        come("LISTED 5");
        due("GOOD", x.slot(client, k, 2), GOOD);
        newest(Kind.TAKEN, client, third, serial, 3, 0);
        x.tick(1);
        due("two surrogates, each sent for 6 ago, and two copies", x.flight(), flying + 4);
        int its = client < third ? x.flight() - 2 : x.flight() - 1;
        c.message(x, its, Kind.DIRTY, client, owner, serial, 6, BEGIN + 32);
    }

    private int placeOf(int kind) {
        int place = 0;
        while (place < x.flight() && x.message(place, 0) != kind) {
            place++;
        }
        return place;
    }

    /** The third node passes the object on to the client, too, while its surrogate is PENDING. */
    private void owesThePassThatCameLast() {
        c.sentence("If the node has a PENDING surrogate for it, the root refers to it, and it owes this pass now.");
        passedToTheThird(1);
        due("pass to the client", x.pass(owner, 0, client, 1), 2);
        come("PASS");
        newest(Kind.DIRTY, client, owner, serial, 1, BEGIN);
        int dirty = x.flight() - 1;
        due("pass from the third", x.pass(third, 1, client, 0), 3);
        int flying = x.flight();
        due("it comes", x.deliver(flying - 1), 1);
        due("the root", x.root(client, 0), k);
        due("nothing is sent", x.flight(), flying - 1);
        due("DIRTY comes", x.deliver(dirty), 1);
        come("LISTED");
        newest(Kind.TAKEN, client, third, serial, 3, 0);
        due("the third's pins, with that of its own object", x.pins(third), 2);
        come("TAKEN");
        due("one of them ended", x.pins(third), 1);
        due("the owner's did not", x.pins(owner), 1);
        due("the third is listed", x.listing(owner, at, third), 24);
        due("the client is listed", x.listing(owner, at, client), 24);
    }

    /** What the owner said to DIRTY 1 comes when the surrogate was freed, and made again with DIRTY 3. */
    private void olderThanFirst(int kind) {
        c.sentence("and NUMBER is not less than its FIRST.");
        x.pass(owner, 0, client, 1);
        x.copy(1);
        if (kind == Kind.GONE) {
            x.drop(owner, 0);
            x.tick(12);
            x.tick(12);
            x.collect(owner);
        }
        come("PASS");
        come("DIRTY 1");
        newest(kind, owner, client, serial, 1);
        x.drop(client, 0);
        x.drop(client, 1);
        due("freed", x.collect(client), k + 1);
        loseNewest();
        for (int i = 0; i < k; i++) {
            x.make(client, 0);
        }
        due("PASS again", x.deliver(1), 1);
        due("the slot again", x.root(client, 1), k);
        newest(Kind.DIRTY, client, owner, serial, 3);
        due("1 is less than FIRST", x.deliver(x.flight() - 2), 0);
        due("PENDING", x.slot(client, k, 2), PENDING);
        come("DIRTY 3");
        newest(kind, owner, client, serial, 3);
        come("3 is FIRST");
        due("GOOD or STALE", x.slot(client, k, 2), kind == Kind.GONE ? STALE : GOOD);
    }

    private void dirtyAgain() {
        c.sentence("If NUMBER is not greater, LISTED is sent likewise if c's listing still lasts (the clock has not come to "
                + "its end); else it is dropped.");
        x.pass(owner, 0, client, 1);
        come("PASS");
        int first = x.flight() - 1;
        x.copy(first);
        x.copy(first);
        come("DIRTY");
        loseNewest();
        x.tick(2);
        x.copy(0);
        due("DIRTY again", x.deliver(first), 1);
        newest(Kind.LISTED, owner, client, serial, 1, BEGIN);
        due("listed as it was", x.listing(owner, at, client), 22);
        x.tick(12);
        x.tick(10);
        due("the listing ended", x.listing(owner, at, client), 0);
        int again = placeOf(Kind.DIRTY);
        c.message(x, again, Kind.DIRTY, client, owner, serial, 1, BEGIN);
        due("DIRTY once more", x.deliver(again), 0);
    }

    private void listedInAnotherOrder() {
        c.sentence("LISTED: its expiry becomes EXTRA + 24, if that is greater");
        x.pass(owner, 0, client, 1);
        come("PASS");
        int dirty = x.flight() - 1;
        x.tick(6);
        x.deliver(dirty);
        x.deliver(dirty);
        come("LISTED 2");
        due("EXTRA + 24", x.slot(client, k, 3), BEGIN + 30);
        due("LISTED 1", x.deliver(placeOf(Kind.LISTED)), 1);
        due("is not greater", x.slot(client, k, 3), BEGIN + 30);
    }

    private void takenAtTheLast() {
        c.sentence("it ends when TAKEN comes for it, or when the clock has come to the time it was made + 24.");
        x.tick(3);
        x.pass(owner, 0, client, 1);
        come("PASS");
        come("DIRTY");
        come("LISTED");
        int taken = x.flight() - 1;
        x.copy(taken);
        x.tick(12);
        x.tick(11);
        due("it lasts for 24", x.pins(owner), 1);
        due("TAKEN", x.deliver(taken), 1);
        due("it ended", x.pins(owner), 0);
        due("TAKEN again", x.deliver(taken), 0);

        due("a pass that is lost", x.pass(owner, 0, client, 1), 2);
        Scenes.loseAll(x);
        x.drop(owner, 0);
        x.drop(owner, 1);
        x.tick(12);
        x.tick(11);
        due("its pin lasts for 24", x.pins(owner), 1);
        due("and keeps the object", x.collect(owner), at);
        x.tick(1);
        due("it ended", x.pins(owner), 0);
        due("and keeps nothing", x.collect(owner), 1);
    }

    private void callAgain() {
        c.sentence("If NUMBER is that of the latest call, the kept reply is sent again; if it is less, it is dropped.");
        passedOn();
        for (int number = 1; number <= 2; number++) {
            due("call", x.call(client, 1, 10 * number), number);
            x.copy(x.flight() - 1);
            come("CALL");
            newest(Kind.ANSWER, owner, client, serial, number, number == 1 ? 10 : 30);
            come("ANSWER");
        }
        int older = placeOf(Kind.CALL);
        c.message(x, older, Kind.CALL, client, owner, serial, 1, 10);
        due("CALL 1 again", x.deliver(older), 0);
        int latest = placeOf(Kind.CALL);
        c.message(x, latest, Kind.CALL, client, owner, serial, 2, 20);
        due("CALL 2 again", x.deliver(latest), 1);
        newest(Kind.ANSWER, owner, client, serial, 2, 30);
        due("the value", x.slot(owner, at, 2), 30);
        due("the RESULT", x.outcome(client, 2), 30);
    }

    private void callForWhatIsGone() {
        c.sentence("else the reply is NOOBJECT with the serial, NUMBER and EXTRA 0. The reply is kept and sent.");
        passedOn();
        x.call(client, 1, 3);
        x.copy(x.flight() - 1);
        come("CALL");
        come("ANSWER");
        x.tick(12);
        x.tick(11);
        due("call", x.call(client, 1, 4), 2);
        x.copy(x.flight() - 1);
        x.drop(owner, 0);
        x.drop(owner, 1);
        x.tick(1);
        due("freed", x.collect(owner), at + 1);
        come("CALL");
        newest(Kind.NOOBJECT, owner, client, serial, 2, 0);
        come("NOOBJECT");
        due("FAILED", x.outcome(client, 0), 3);
        due("its number", x.outcome(client, 1), 2);
        due("the RESULT of the one before", x.outcome(client, 2), 3);
        due("CALL 1 again", x.deliver(placeOf(Kind.CALL)), 0);
        due("CALL 2 again", x.deliver(placeOf(Kind.CALL)), 1);
        newest(Kind.NOOBJECT, owner, client, serial, 2, 0);
        due("NOOBJECT again", x.deliver(x.flight() - 1), 0);
    }

    private void callFails() {
        c.sentence(11, "if its surrogate is STALE, it FAILED, else CALL is sent again.");
        passedOn();
        x.tick(12);
        x.tick(7);
        Scenes.loseAll(x);
        due("call", x.call(client, 1, -8), 1);
        x.tick(3);
        due("two CALLs", x.flight(), 2);
        newest(Kind.CALL, client, owner, serial, 1, -8);
        x.drop(client, 0);
        x.drop(client, 1);
        due("kept while it WAITS", x.collect(client), k);
        x.tick(2);
        due("STALE", x.slot(client, k, 2), STALE);
        due("WAITING", x.outcome(client, 0), 1);
        x.tick(1);
        due("FAILED", x.outcome(client, 0), 3);
        due("not kept any more", x.collect(client), 1);
        newest(Kind.CLEAN, client, owner, serial, 5, 0);
    }

    // ---- pins and objects beside each other ----

    /** Six surrogates of the node, each pinned once, are passed back to their owner: each TAKEN ends its own pin. */
    private static void takenForEachPin(int node) {
        c.sentence("TAKEN: the pin with this id at the node, if it has one that did not end, ends; else it is dropped.");
        int owner = (node + 1) % 4;
        for (int taken = 0; taken < 6; taken++) {
            LeasedReferences x = new LeasedReferences();
            for (int i = 0; i < 6; i++) {
                x.make(owner, 0);
                x.pass(owner, 0, node, 0);
                for (int come = 0; come < 4; come++) {
                    x.deliver(i);
                }
                x.pass(node, 0, owner, 1);
                x.deliver(i);
                c.message(x, i, Kind.TAKEN, owner, node, i, 2 * i + 1, 0);
            }
            x.drop(node, 0);
            c.due("six pins of " + node, x.pins(node), 6);
            c.due("keep six slots", x.collect(node), 0);
            c.due("TAKEN for pin " + taken, x.deliver(taken), 1);
            c.due("five pins", x.pins(node), 5);
            c.due("keep five slots", x.collect(node), 1);
            c.due("but not slot " + taken, x.slot(node, taken, 0), 0);
        }
    }

    private static void everyTwoObjects(int client) {
        for (int one = 0; one < 32; one++) {
            for (int other = 0; other < 32; other++) {
                if (one != other && one / 8 != client && other / 8 != client) {
                    eachHasItsOwn(one / 8, one % 8, other / 8, other % 8, client);
                }
            }
        }
    }

    /** What comes for one object leaves LAST and the listing of the other. */
    private static void eachHasItsOwn(int owner, int at, int owner2, int at2, int client) {
        c.sentence("and for each other node a LAST number, 0 at first, and a LISTING");
        String pair = owner + " slot " + at + " and " + owner2 + " slot " + at2 + ", client " + client + ": ";
        LeasedReferences x = new LeasedReferences();
        for (int k = 0; k < 8; k++) {
            x.make(owner, k == at ? 0 : owner == owner2 && k == at2 ? 1 : 2);
            if (owner != owner2) {
                x.make(owner2, k == at2 ? 1 : 2);
            }
        }
        x.pass(owner, 0, client, 0);
        x.pass(owner2, 1, client, 1);
        Scenes.deliverOldest(x, 2);
        x.copy(0);
        x.copy(1);
        c.due(pair + "DIRTY 2 first", x.deliver(1), 1);
        c.due(pair + "lists for the second", x.listing(owner2, at2, client), 24);
        c.due(pair + "and not for the first", x.listing(owner, at, client), 0);
        x.tick(1);
        c.due(pair + "DIRTY 1", x.deliver(0), 1);
        c.due(pair + "lists for the first", x.listing(owner, at, client), 24);
        c.due(pair + "and leaves the second", x.listing(owner2, at2, client), 23);
        c.due(pair + "DIRTY 1 again", x.deliver(0), 1);
        c.due(pair + "DIRTY 2 again", x.deliver(0), 1);
        x.drop(client, 1);
        x.collect(client);
        c.due(pair + "CLEAN 3 for the second", x.deliver(x.flight() - 1), 1);
        c.due(pair + "leaves the first", x.listing(owner, at, client), 24);
        c.due(pair + "ends the second", x.listing(owner2, at2, client), 0);
        x.drop(client, 0);
        x.collect(client);
        x.copy(x.flight() - 1);
        c.due(pair + "CLEAN 4 for the first", x.deliver(x.flight() - 1), 1);
        c.due(pair + "ends the first", x.listing(owner, at, client), 0);
        c.due(pair + "CLEAN 4 again", x.deliver(x.flight() - 1), 0);
    }
}
