/**
 * The sentences under 'What it is' and 'Terms' that say what there is and what belongs to what; those that name a
 * boundary are in TermsBoundsTest, the coming of messages in ComingBoundsTest.
 */
public final class TermsTest {
    private static final int NONE = LeasedReferences.NONE;
    private static final int PENDING = 0;
    private static final int GOOD = 1;
    private static final int STALE = 2;
    private static final Checks c = new Checks();

    public static void main(String[] args) {
        freedWhenNobodyRefers();
        freedWithoutTrustInTheNetwork();
        slotsHold();
        slotsHoldNoSurrogateOfTheirOwn();
        rootsRefer();
        makersOwn();
        fieldsRefer();
        surrogatesHave();
        surrogateInASlotUsedAgain();
        objectInASlotUsedAgain();
        messagesHave();
        flightIsAList();
        sendsADirty();
        callBelongsToASurrogate();
        pinHasAnIdAndASlot();
        c.end();
    }

    private static void freedWhenNobodyRefers() {
        c.sentence("References between objects of four nodes [..] each object's owner lists who refers to it, for a time, "
                + "and frees what nobody can reach any more.");
        LeasedReferences x = Scenes.known();
        x.drop(0, 0);
        c.due("node 1 is listed", x.listing(0, 0, 1), 24);
        for (int renewed = 6; renewed <= 60; renewed += 6) {
            x.tick(6);
            Scenes.deliverOldest(x, 2);
            c.due("listed again at " + renewed, x.listing(0, 0, 1), 24);
            c.due("so it is not freed", x.collect(0), 0);
        }
        x.drop(1, 0);
        c.due("node 1 frees its surrogate", x.collect(1), 1);
        c.due("and tells the owner", x.deliver(0), 1);
        c.due("who frees the object", x.collect(0), 1);
    }

    private static void freedWithoutTrustInTheNetwork() {
        c.sentence("nodes that do not trust their network: each object's owner lists who refers to it, for a time, and "
                + "frees what nobody can reach any more.");
        for (int crashes = 0; crashes <= 1; crashes++) {
            LeasedReferences x = Scenes.known();
            x.drop(0, 0);
            if (crashes == 1) {
                x.crash(1);
            }
            Scenes.quietTicks(x, 23);
            c.due("all is lost: listed to the end", x.collect(0), 0);
            x.tick(1);
            c.due("and freed then", x.collect(0), 1);
            c.due("when nobody can use it any more", x.slot(1, 0, 2), STALE);
        }
    }

    private static void slotsHold() {
        c.sentence("A slot is empty, or holds an OBJECT of the node, or a SURROGATE for an object of another node.");
        int[][] holds = {{1, 1, 0}, {1, 2, 0}, {2, 2, 2}, {1, 1, 0}};
        int[][] serials = {{0, 1, NONE}, {2, 0, NONE}, {1, 2, 0}, {3, 4, NONE}};
        LeasedReferences x = Scenes.busy();
        for (int node = 0; node <= 3; node++) {
            for (int k = 0; k <= 2; k++) {
                c.due("slot " + k + " of node " + node, x.slot(node, k, 0), holds[node][k]);
                c.due("its serial", x.slot(node, k, 1), serials[node][k]);
                if (holds[node][k] == 2) {
                    c.isTrue("of another node", x.slot(node, k, 4) != node);
                }
            }
        }
    }

    private static void slotsHoldNoSurrogateOfTheirOwn() {
        c.sentence("or a SURROGATE for an object of another node.");
        for (int owner = 0; owner <= 3; owner++) {
            int client = (owner + 2) % 4;
            LeasedReferences x = new LeasedReferences();
            x.make(owner, 0);
            x.pass(owner, 0, client, 0);
            Scenes.deliverOldest(x, 4);
            for (int into = 0; into <= 2; into++) {
                x.pass(client, 0, owner, into);
                Scenes.deliverOldest(x, 2);
                c.due("the owner's root refers to the object", x.root(owner, into), 0);
                c.due("which is an object", x.slot(owner, 0, 0), 1);
                c.due("and it has no surrogate for it", x.slot(owner, 1, 0), 0);
            }
        }
    }

    private static void rootsRefer() {
        c.sentence("A root is nothing at first, or refers to a slot that is not empty.");
        LeasedReferences x = new LeasedReferences();
        for (int node = 0; node <= 3; node++) {
            for (int root = 0; root <= 2; root++) {
                c.due("root " + root + " of node " + node + " at first", x.root(node, root), NONE);
            }
        }
        x = Scenes.busy();
        int referring = 0;
        for (int node = 0; node <= 3; node++) {
            x.collect(node);
            for (int root = 0; root <= 2; root++) {
                int k = x.root(node, root);
                referring += k == NONE ? 0 : 1;
                c.isTrue("root " + root + " of node " + node, k == NONE || x.slot(node, k, 0) != 0);
            }
        }
        c.due("roots that refer to a slot", referring, 9);
    }

    private static void makersOwn() {
        c.sentence("the node that made one OWNS it.");
        for (int maker = 0; maker <= 3; maker++) {
            int second = (maker + 1) % 4;
            int third = (maker + 2) % 4;
            LeasedReferences x = new LeasedReferences();
            x.make(maker, 0);
            x.pass(maker, 0, second, 0);
            Scenes.deliverOldest(x, 4);
            c.due("the owner, as the second node has it", x.slot(second, 0, 4), maker);
            x.pass(second, 0, third, 1);
            c.message(x, 0, Kind.PASS, second, third, 0, 1, 4 + maker);
            x.deliver(0);
            c.due("the owner, as the third has it", x.slot(third, 0, 4), maker);
            c.message(x, 0, Kind.DIRTY, third, maker, 0, 1, 0);
            Scenes.deliverOldest(x, 3);
            x.call(third, 1, 8);
            c.message(x, 0, Kind.CALL, third, maker, 0, 1, 8);
            Scenes.deliverOldest(x, 2);
            x.drop(third, 1);
            x.collect(third);
            c.message(x, 0, Kind.CLEAN, third, maker, 0, 2, 0);
        }
    }

    private static void fieldsRefer() {
        c.sentence("An object has two FIELDS 0 and 1, each nothing or a slot of its node that is not empty");
        LeasedReferences x = Scenes.known();
        x.make(1, 1);
        x.make(1, 2);
        c.due("field 0 at first", x.slot(1, 1, 3), NONE);
        c.due("field 1 at first", x.slot(1, 1, 4), NONE);
        x.link(1, 1, 0, 2);
        c.due("field 0", x.slot(1, 1, 3), 2);
        c.due("field 1 stays", x.slot(1, 1, 4), NONE);
        x.link(1, 1, 1, 0);
        c.due("field 0 stays", x.slot(1, 1, 3), 2);
        c.due("field 1", x.slot(1, 1, 4), 0);
        c.due("another object has its own", x.slot(1, 2, 3), NONE);
        x.drop(1, 0);
        x.drop(1, 2);
        c.due("what they refer to stays", x.collect(1), 0);
        c.due("a surrogate", x.slot(1, x.slot(1, 1, 4), 0), 2);
        c.due("an object", x.slot(1, x.slot(1, 1, 3), 0), 1);
        c.due("there is no field 2", x.link(1, 1, 2, 1), false);
    }

    private static void surrogatesHave() {
        c.sentence("A SURROGATE has the serial, FIRST and SENT (below), an EXPIRY (a time), and a state: it is STALE when");
        LeasedReferences x = new LeasedReferences();
        x.make(0, 0);
        x.make(2, 1);
        x.tick(3);
        x.pass(2, 1, 3, 2);
        x.deliver(0);
        c.due("the serial", x.slot(3, 0, 1), 1);
        c.due("the expiry", x.slot(3, 0, 3), 27);
        c.due("PENDING", x.slot(3, 0, 2), PENDING);
        c.message(x, 0, Kind.DIRTY, 3, 2, 1, 1, 3);
        x.deliver(0);
        c.due("NUMBER 1 is not less than FIRST", x.deliver(0), 1);
        c.due("GOOD", x.slot(3, 0, 2), GOOD);
        Scenes.loseAll(x);
        x.tick(5);
        c.due("SENT was 5 ago", x.flight(), 0);
        x.tick(1);
        c.due("SENT was 6 ago", x.flight(), 1);
        Scenes.quietTicks(x, 18);
        c.due("STALE", x.slot(3, 0, 2), STALE);
        c.due("the serial", x.slot(3, 0, 1), 1);
        c.due("the expiry", x.slot(3, 0, 3), 27);
    }

    /** Node 1's slot 0 held a surrogate in each state, or an object, and is emptied; then a PASS from node 2 comes. */
    private static void surrogateInASlotUsedAgain() {
        c.sentence("A surrogate BECOMES PENDING: it is PENDING, its expiry is the clock + 24, a DIRTY is sent for it, its "
                + "FIRST is the number of that DIRTY, and it OWES the pass that came.");
        for (int held = PENDING; held <= STALE + 1; held++) {
            LeasedReferences x = held == PENDING ? Scenes.pending() : held == GOOD ? Scenes.known() : Scenes.stale();
            if (held > STALE) {
                x.make(1, 1);
                x.link(1, 1, 0, 1);
                x.link(1, 1, 1, 1);
            }
            x.drop(1, 0);
            x.drop(1, 1);
            Scenes.loseAll(x);
            x.tick(2);
            x.collect(1);
            Scenes.loseAll(x);
            int clock = held >= STALE ? 26 : 2;
            int number = held >= STALE ? 6 : 3;
            x.make(2, 1);
            c.due("pass", x.pass(2, 1, 1, 2), 1);
            int serial = x.message(0, 3);
            c.due("it comes", x.deliver(0), 1);
            c.due("slot 0 again", x.root(1, 2), 0);
            c.due("a surrogate", x.slot(1, 0, 0), 2);
            c.due("its serial", x.slot(1, 0, 1), serial);
            c.due("PENDING", x.slot(1, 0, 2), PENDING);
            c.due("its expiry", x.slot(1, 0, 3), clock + 24);
            c.due("its owner", x.slot(1, 0, 4), 2);
            c.due("no object, so no listing", x.listing(1, 0, 2), NONE);
            c.due("one is sent", x.flight(), 1);
            c.message(x, 0, Kind.DIRTY, 1, 2, serial, number, clock);
            x.tick(5);
            c.due("SENT was 5 ago", x.flight(), 1);
            x.deliver(0);
            c.due("LISTED comes", x.deliver(0), 1);
            c.message(x, 0, Kind.TAKEN, 1, 2, serial, 1, 0);
            c.due("GOOD", x.slot(1, 0, 2), GOOD);
            x.tick(1);
            c.message(x, 1, Kind.DIRTY, 1, 2, serial, number + 1, clock + 6);
        }
    }

    private static void objectInASlotUsedAgain() {
        c.sentence("An object has two FIELDS 0 and 1, each nothing or a slot of its node that is not empty, a VALUE (an int, "
                + "0 at first), and for each other node a LAST number, 0 at first, and a LISTING, which lasts until some time; "
                + "at first there is none.");
        for (int held = 1; held <= 2; held++) {
            LeasedReferences x = Scenes.known();
            x.call(1, 0, 9);
            Scenes.deliverOldest(x, 2);
            x.link(0, 0, 0, 0);
            x.link(0, 0, 1, 0);
            int node = held == 1 ? 0 : 1;
            x.drop(0, 0);
            x.drop(1, 0);
            x.collect(1);
            x.deliver(0);
            x.collect(0);
            c.due("the slot is empty", x.slot(node, 0, 0), 0);
            c.due("make", x.make(node, 2), 1);
            int[] parts = {1, 1, 0, NONE, NONE};
            for (int which = 0; which <= 4; which++) {
                c.due("slot(" + node + ", 0, " + which + ")", x.slot(node, 0, which), parts[which]);
            }
            for (int client = 0; client <= 3; client++) {
                c.due("listing for " + client, x.listing(node, 0, client), client == node ? NONE : 0);
            }
            x.drop(node, 2);
            c.due("nothing keeps it", x.collect(node), 1);
            c.due("an object sends no CLEAN", x.flight(), 0);
        }
    }

    private static void messagesHave() {
        c.sentence("MESSAGES have a KIND, a sender, a receiver, a SERIAL, a NUMBER and an EXTRA. [..] The kinds: 0 PASS, "
                + "1 TAKEN, 2 DIRTY, 3 LISTED, 4 GONE, 5 CLEAN, 6 CALL, 7 ANSWER, 8 NOOBJECT.");
        LeasedReferences x = new LeasedReferences();
        x.make(0, 0);
        x.make(2, 0);
        x.pass(0, 0, 1, 0);
        x.lose(0);
        x.tick(5);
        x.pass(2, 0, 3, 1);
        c.message(x, 0, 0, 2, 3, 1, 1, 4 * 1 + 2);
        x.copy(0);
        x.deliver(0);
        c.message(x, 1, 2, 3, 2, 1, 1, 5);
        x.deliver(1);
        c.message(x, 1, 3, 2, 3, 1, 1, 5);
        x.deliver(1);
        c.message(x, 1, 1, 3, 2, 1, 1, 0);
        x.deliver(1);
        x.call(3, 1, 77);
        c.message(x, 1, 6, 3, 2, 1, 1, 77);
        x.deliver(1);
        c.message(x, 1, 7, 2, 3, 1, 1, 77);
        x.deliver(1);
        x.call(3, 1, -4);
        x.drop(3, 1);
        x.drop(2, 0);
        x.tick(12);
        x.tick(12);
        x.collect(2);
        c.message(x, 1, 6, 3, 2, 1, 2, -4);
        x.deliver(1);
        int last = x.flight() - 1;
        c.message(x, last, 8, 2, 3, 1, 2, 0);
        x.deliver(last);
        x.collect(3);
        int clean = x.message(last, 4);
        c.message(x, last, 5, 3, 2, 1, clean, 0);
        x.deliver(0);
        c.message(x, last, 2, 3, 2, 1, clean + 1, 29);
        x.deliver(last);
        c.message(x, last, 4, 2, 3, 1, clean + 1, 29);
    }

    private static void flightIsAList() {
        c.sentence("THE FLIGHT is a list of messages; what is sent is put at its end");
        LeasedReferences x = new LeasedReferences();
        x.make(0, 0);
        x.pass(0, 0, 1, 0);
        x.pass(0, 0, 2, 0);
        x.pass(0, 0, 3, 0);
        for (int k = 0; k <= 2; k++) {
            c.message(x, k, Kind.PASS, 0, k + 1, 0, k);
        }
        x.deliver(1);
        c.message(x, 0, Kind.PASS, 0, 1, 0, 0);
        c.message(x, 1, Kind.PASS, 0, 3, 0, 2);
        c.message(x, 2, Kind.DIRTY, 2, 0, 0, 1);
        x.copy(0);
        c.message(x, 3, Kind.PASS, 0, 1, 0, 0);
        x.tick(6);
        c.message(x, 4, Kind.DIRTY, 2, 0, 0, 2);
        x.lose(0);
        c.message(x, 0, Kind.PASS, 0, 3, 0, 2);
        c.due("how many", x.flight(), 4);
    }

    private static void sendsADirty() {
        c.sentence("A node SENDS A DIRTY for a surrogate: to the owner, with the serial, the node's next number, and the "
                + "clock as EXTRA; the surrogate's SENT is the clock then.");
        LeasedReferences x = new LeasedReferences();
        x.make(3, 0);
        x.make(2, 0);
        x.pass(2, 0, 1, 0);
        Scenes.deliverOldest(x, 4);
        x.tick(4);
        x.pass(1, 0, 0, 2);
        x.deliver(0);
        c.message(x, 0, Kind.DIRTY, 0, 2, 1, 1, 4);
        x.tick(2);
        c.message(x, 1, Kind.DIRTY, 1, 2, 1, 2, 6);
        x.tick(3);
        c.due("neither was sent 6 ago", x.flight(), 2);
        x.tick(1);
        c.message(x, 2, Kind.DIRTY, 0, 2, 1, 2, 10);
        x.tick(2);
        c.message(x, 3, Kind.DIRTY, 1, 2, 1, 3, 12);
        c.due("and no more", x.flight(), 4);
    }

    private static void callBelongsToASurrogate() {
        c.sentence("it belongs to a surrogate.");
        LeasedReferences x = new LeasedReferences();
        x.make(0, 0);
        x.make(2, 0);
        x.pass(0, 0, 1, 0);
        Scenes.deliverOldest(x, 4);
        Scenes.quietTicks(x, 22);
        x.pass(2, 0, 1, 1);
        Scenes.deliverOldest(x, 4);
        x.call(1, 0, 6);
        x.make(1, 2);
        x.link(1, 2, 0, 1);
        x.fetch(1, 2, 0, 0);
        c.due("root 0 refers to the other surrogate now", x.root(1, 0), 1);
        c.due("the call's own is kept", x.collect(1), 0);
        x.lose(0);
        x.tick(2);
        c.due("it is STALE", x.slot(1, 0, 2), STALE);
        c.due("the other is GOOD", x.slot(1, 1, 2), GOOD);
        x.tick(1);
        c.due("so the call FAILED", x.outcome(1, 0), 3);
        c.due("and its surrogate is not kept", x.collect(1), 1);

        x = Scenes.known();
        x.make(2, 0);
        x.pass(2, 0, 1, 1);
        Scenes.deliverOldest(x, 4);
        x.call(1, 1, 6);
        x.drop(1, 1);
        x.lose(0);
        x.tick(3);
        c.message(x, 0, Kind.CALL, 1, 2, 1, 1, 6);
    }

    private static void pinHasAnIdAndASlot() {
        c.sentence("PINS. A pin has an id and a slot;");
        LeasedReferences x = new LeasedReferences();
        x.make(0, 0);
        x.make(0, 1);
        x.pass(0, 0, 1, 0);
        x.pass(0, 1, 2, 0);
        x.drop(0, 0);
        x.drop(0, 1);
        x.crash(1);
        x.deliver(0);
        c.due("both slots are pinned", x.collect(0), 0);
        x.deliver(0);
        x.drop(2, 0);
        x.deliver(0);
        x.deliver(0);
        c.message(x, 0, Kind.TAKEN, 2, 0, 1, 1, 0);
        x.deliver(0);
        c.due("the pin with id 0 goes on", x.pins(0), 1);
        x.collect(2);
        x.deliver(0);
        c.due("that with id 1 ended, and its slot is not kept", x.collect(0), 1);
        c.due("slot 0", x.slot(0, 0, 0), 1);
        c.due("slot 1", x.slot(0, 1, 0), 0);
    }
}
