/**
 * What the document says of a node, a slot, a root or a field it says of each of them: every call of the face with
 * each argument that is there, and each kind of message between each two nodes, for objects and surrogates in each
 * slot. (What is not there: RefusalsTest.)
 */
public final class EveryArgumentTest {
    private static final int NONE = LeasedReferences.NONE;
    private static final Checks c = new Checks();

    public static void main(String[] args) {
        for (int node = 0; node < 4; node++) {
            for (int root = 0; root < 3; root++) {
                make(node, root);
                link(node, root);
                fetch(node, root);
                drop(node, root);
                pass(node, root);
                call(node, root);
            }
            collect(node);
            crash(node);
            slots(node);
            pins(node);
            takenForEachPin(node);
            everyTwoObjects(node);
            for (int other = 0; other < 4; other++) {
                if (other != node) {
                    listings(node, other);
                    betweenTwo(node, other);
                }
            }
        }
        c.end();
    }

    /** Objects in slots 0, 1 and 2 of the node, to which roots 0, 1 and 2 refer. */
    private static LeasedReferences three(int node) {
        LeasedReferences x = new LeasedReferences();
        for (int root = 0; root < 3; root++) {
            x.make(node, root);
        }
        return x;
    }

    private static void make(int node, int root) {
        c.sentence(2, "Makes an object in the least empty slot of the node, to which the root then refers: its serial.");
        LeasedReferences x = new LeasedReferences();
        for (int k = 0; k < 8; k++) {
            c.due("make(" + node + ", " + root + ")", x.make(node, root), k);
            for (int n = 0; n < 4; n++) {
                for (int r = 0; r < 3; r++) {
                    c.due("root(" + n + ", " + r + ")", x.root(n, r), n == node && r == root ? k : NONE);
                }
                c.due("slot(" + n + ", " + k + ", 0)", x.slot(n, k, 0), n == node ? 1 : 0);
            }
            c.due("slot(" + node + ", " + k + ", 1)", x.slot(node, k, 1), k);
        }
        c.due("full", x.make(node, root), NONE);
    }

    private static void link(int node, int root) {
        c.sentence(3, "The field of the object to which the root refers becomes what root from refers to, or nothing if from "
                + "is -1 or refers to nothing.");
        for (int field = 0; field < 2; field++) {
            for (int from = -1; from < 3; from++) {
                LeasedReferences x = three(node);
                String call = "link(" + node + ", " + root + ", " + field + ", " + from + ")";
                c.due(call, x.link(node, root, field, from), true);
                for (int k = 0; k < 3; k++) {
                    c.due(call + ": field 0 of " + k, x.slot(node, k, 3), k == root && field == 0 ? from : NONE);
                    c.due(call + ": field 1 of " + k, x.slot(node, k, 4), k == root && field == 1 ? from : NONE);
                    c.due(call + ": root " + k, x.root(node, k), k);
                }
                if (from != -1 && from != root) {
                    x.drop(node, from);
                    c.due(call + " from nothing", x.link(node, root, field, from), true);
                    c.due(call + " from nothing: nothing", x.slot(node, root, 3 + field), NONE);
                }
            }
        }
    }

    private static void fetch(int node, int root) {
        c.sentence(4, "Root into refers to what the field of the object to which the root refers refers to (perhaps nothing: "
                + "then it refers to nothing).");
        for (int field = 0; field < 2; field++) {
            for (int into = 0; into < 3; into++) {
                for (int what = -1; what < 3; what++) {
                    LeasedReferences x = three(node);
                    x.link(node, root, field, what);
                    x.link(node, root, 1 - field, 1);
                    String call = "fetch(" + node + ", " + root + ", " + field + ", " + into + ")";
                    c.due(call, x.fetch(node, root, field, into), true);
                    for (int r = 0; r < 3; r++) {
                        c.due(call + ": root " + r, x.root(node, r), r == into ? what : r);
                    }
                }
            }
        }
    }

    private static void drop(int node, int root) {
        c.sentence(5, "The root refers to nothing (it may be so already).");
        LeasedReferences x = three(node);
        for (int times = 1; times <= 2; times++) {
            c.due("drop(" + node + ", " + root + ")", x.drop(node, root), true);
            for (int r = 0; r < 3; r++) {
                c.due("root " + r, x.root(node, r), r == root ? NONE : r);
            }
        }
    }

    private static void pass(int node, int root) {
        c.sentence(6, "Passes what the root refers to on to root into of node to: a pin for its slot with the next id is made");
        for (int to = 0; to < 4; to++) {
            for (int into = 0; into < 3 && to != node; into++) {
                LeasedReferences x = three(node);
                String call = "pass(" + node + ", " + root + ", " + to + ", " + into + ")";
                c.due(call, x.pass(node, root, to, into), 0);
                c.message(x, 0, Kind.PASS, node, to, root, 0, 4 * into + node);
                c.due(call + ": pins", x.pins(node), 1);
                for (int r = 0; r < 3; r++) {
                    x.drop(node, r);
                }
                c.due(call + ": two slots are not pinned", x.collect(node), 2);
                c.due(call + ": one is", x.slot(node, root, 0), 1);
                c.due(call + ": comes", x.deliver(0), 1);
                for (int r = 0; r < 3; r++) {
                    c.due(call + ": root " + r, x.root(to, r), r == into ? 0 : NONE);
                }
                c.due(call + ": the serial", x.slot(to, 0, 1), root);
                c.due(call + ": the owner", x.slot(to, 0, 4), node);
            }
        }
    }

    private static void call(int node, int root) {
        c.sentence(7, "The node's call becomes a new one, WAITING, for the surrogate to which the root refers; CALL with the "
                + "serial, the number and the amount is sent to the owner. Answers the number.");
        for (int owner = 0; owner < 4; owner++) {
            if (owner != node) {
                LeasedReferences x = three(owner);
                for (int r = 0; r < 3; r++) {
                    x.pass(owner, r, node, r);
                    Scenes.deliverOldest(x, 4);
                }
                c.due("call(" + node + ", " + root + ", ..)", x.call(node, root, 40 + root), 1);
                c.message(x, 0, Kind.CALL, node, owner, root, 1, 40 + root);
                for (int n = 0; n < 4; n++) {
                    c.due("the state of " + n, x.outcome(n, 0), n == node ? 1 : 0);
                    c.due("the number of " + n, x.outcome(n, 1), n == node ? 1 : 0);
                }
                Scenes.deliverOldest(x, 2);
                c.due("the RESULT", x.outcome(node, 2), 40 + root);
                c.due("the value", x.slot(owner, root, 2), 40 + root);
            }
        }
    }

    private static void collect(int node) {
        c.sentence(12, "COLLECTING at the node: how many slots became empty.");
        for (int kept = 0; kept < 8; kept++) {
            LeasedReferences x = new LeasedReferences();
            for (int k = 0; k < 8; k++) {
                x.make(node, k == kept ? 1 : 0);
                x.make((node + 1) % 4, 0);
            }
            x.drop(node, 0);
            c.due("collect(" + node + ")", x.collect(node), 7);
            for (int k = 0; k < 8; k++) {
                c.due("slot " + k, x.slot(node, k, 0), k == kept ? 1 : 0);
                c.due("slot " + k + " of another node", x.slot((node + 1) % 4, k, 0), 1);
            }
        }
    }

    private static void crash(int node) {
        c.sentence(13, "The node crashes (false for one that crashed).");
        LeasedReferences x = new LeasedReferences();
        c.due("crash(" + node + ")", x.crash(node), true);
        c.due("again", x.crash(node), false);
        for (int n = 0; n < 4; n++) {
            c.due("drop in " + n, x.drop(n, 0), n != node);
        }
    }

    private static void slots(int node) {
        c.sentence(17, "Of a slot (of a node that crashed, too): 0 what it holds (0 nothing, 1 an object, 2 a surrogate)");
        int owner = (node + 3) % 4;
        for (int k = 0; k < 8; k++) {
            LeasedReferences x = new LeasedReferences();
            x.tick(1);
            for (int i = 0; i < k; i++) {
                x.make(node, i % 2);
            }
            x.make(node, 2);
            x.link(node, 2, 0, 2);
            x.link(node, 2, 1, 0);
            int[] object = {1, k, 0, k, k == 0 ? NONE : (k - 1) / 2 * 2};
            for (int crashes = 0; crashes < 2; crashes++) {
                for (int which = 0; which < 5; which++) {
                    c.due("slot(" + node + ", " + k + ", " + which + ")", x.slot(node, k, which), object[which]);
                }
                for (int empty = k + 1; empty < 8; empty++) {
                    c.due("slot(" + node + ", " + empty + ", 0)", x.slot(node, empty, 0), 0);
                }
                x.crash(node);
            }
            x = new LeasedReferences();
            x.tick(1);
            for (int i = 0; i < k; i++) {
                x.make(node, 0);
            }
            x.make(owner, 1);
            x.pass(owner, 1, node, 1);
            x.deliver(0);
            int[] surrogate = {2, k, 0, 25, owner};
            for (int crashes = 0; crashes < 2; crashes++) {
                for (int which = 0; which < 5; which++) {
                    c.due("slot(" + node + ", " + k + ", " + which + ")", x.slot(node, k, which), surrogate[which]);
                }
                x.crash(node);
            }
        }
    }

    private static void pins(int node) {
        c.sentence(19, "How many pins of the node did not end (of one that crashed, too)");
        LeasedReferences x = three(node);
        for (int pins = 1; pins <= 6; pins++) {
            c.due("pass", x.pass(node, pins % 3, (node + 1) % 4, 0), pins - 1);
            for (int n = 0; n < 4; n++) {
                c.due("pins(" + n + ")", x.pins(n), n == node ? pins : 0);
            }
        }
        x.crash(node);
        c.due("crashed", x.pins(node), 6);
    }

    private static void listings(int owner, int client) {
        c.sentence(18, "How much longer the listing of a node for the object in a slot lasts; 0 when it does not");
        for (int k = 0; k < 8; k++) {
            LeasedReferences x = new LeasedReferences();
            for (int i = 0; i < 8; i++) {
                x.make(owner, i == k ? 1 : 0);
            }
            x.pass(owner, 1, client, 0);
            Scenes.deliverOldest(x, 2);
            for (int crashes = 0; crashes < 2; crashes++) {
                for (int slot = 0; slot < 8; slot++) {
                    for (int n = 0; n < 4; n++) {
                        int due = n == owner ? NONE : slot == k && n == client ? 24 - crashes : 0;
                        c.due("listing(" + owner + ", " + slot + ", " + n + ")", x.listing(owner, slot, n), due);
                    }
                }
                x.crash(owner);
                x.tick(1);
            }
        }
    }

    /** The object in each slot of its owner, the surrogate in each slot of its client. */
    private static void betweenTwo(int owner, int client) {
        c.sentence("When a message comes to a node:");
        for (int at = 0; at < 8; at++) {
            for (int k = 0; k < 8; k++) {
                LeasedReferences x = new LeasedReferences();
                int third = thirdNode(owner, client);
                x.make(third, 0);
                x.pass(third, 0, client, 2);
                for (int i = 0; i <= at; i++) {
                    x.make(owner, 0);
                }
                for (int i = 0; i < k; i++) {
                    x.make(client, 0);
                }
                String pair = "object of " + owner + " in slot " + at + ", surrogate of " + client + " in slot " + k + ": ";
                passedOn(x, pair, owner, client, at + 1, k);
                calledAndRenewed(x, pair, owner, client, at, k);
                passedAgain(x, pair, owner, client, at, k);
                freed(x, pair, owner, client, at, k);
                goneForIt(owner, at, client, k);
            }
        }
    }

    private static int thirdNode(int owner, int client) {
        for (int node = 0; node < 4; node++) {
            if (node != owner && node != client) {
                return node;
            }
        }
        return NONE;
    }

    /**
     * The newest message comes. A PASS of another object, which stays at place 0, is copied before that, so that what is
     * sent comes to a place where something quite different has been.
     */
    private static void come(LeasedReferences x, String what) {
        int place = x.flight() - 1;
        x.copy(0);
        c.due(what + " comes", x.deliver(place), 1);
    }

    private static void newest(LeasedReferences x, int... parts) {
        c.message(x, x.flight() - 1, parts);
    }

    private static void passedOn(LeasedReferences x, String pair, int owner, int client, int serial, int k) {
        c.due(pair + "pass", x.pass(owner, 0, client, 1), 1);
        newest(x, Kind.PASS, owner, client, serial, 1, 4 + owner);
        come(x, pair + "PASS");
        c.due(pair + "its slot", x.root(client, 1), k);
        newest(x, Kind.DIRTY, client, owner, serial, 1, 0);
        come(x, pair + "DIRTY");
        newest(x, Kind.LISTED, owner, client, serial, 1, 0);
        come(x, pair + "LISTED");
        c.due(pair + "GOOD", x.slot(client, k, 2), 1);
        newest(x, Kind.TAKEN, client, owner, serial, 1, 0);
        come(x, pair + "TAKEN");
        c.due(pair + "its pin ended", x.pins(owner), 0);
    }

    private static void calledAndRenewed(LeasedReferences x, String pair, int owner, int client, int at, int k) {
        c.due(pair + "call", x.call(client, 1, 3), 1);
        newest(x, Kind.CALL, client, owner, at + 1, 1, 3);
        come(x, pair + "CALL");
        c.due(pair + "the value", x.slot(owner, at, 2), 3);
        newest(x, Kind.ANSWER, owner, client, at + 1, 1, 3);
        come(x, pair + "ANSWER");
        c.due(pair + "DONE", x.outcome(client, 0), 2);
        x.tick(6);
        newest(x, Kind.DIRTY, client, owner, at + 1, 2, 6);
        come(x, pair + "DIRTY 2");
        newest(x, Kind.LISTED, owner, client, at + 1, 2, 6);
        come(x, pair + "LISTED 2");
        c.due(pair + "renewed", x.slot(client, k, 3), 30);
    }

    private static void passedAgain(LeasedReferences x, String pair, int owner, int client, int at, int k) {
        c.due(pair + "pass back", x.pass(client, 1, owner, 2), 2);
        newest(x, Kind.PASS, client, owner, at + 1, 2, 8 + owner);
        come(x, pair + "PASS to the owner");
        c.due(pair + "the owner's root", x.root(owner, 2), at);
        newest(x, Kind.TAKEN, owner, client, at + 1, 2, 0);
        come(x, pair + "TAKEN from the owner");
        c.due(pair + "its pin ended", x.pins(client), 0);
        c.due(pair + "pass once more", x.pass(owner, 2, client, 2), 3);
        come(x, pair + "PASS to a GOOD one");
        c.due(pair + "no second surrogate", x.root(client, 2), k);
        newest(x, Kind.TAKEN, client, owner, at + 1, 3, 0);
        come(x, pair + "TAKEN for the GOOD one");
    }

    private static void freed(LeasedReferences x, String pair, int owner, int client, int at, int k) {
        x.drop(owner, 0);
        x.drop(owner, 2);
        c.due(pair + "all but what is listed", x.collect(owner), at);
        x.drop(client, 0);
        x.drop(client, 1);
        x.drop(client, 2);
        c.due(pair + "all of the client", x.collect(client), k + 1);
        newest(x, Kind.CLEAN, client, owner, at + 1, 3, 0);
        int flying = x.flight();
        come(x, pair + "CLEAN");
        c.due(pair + "nothing is sent", x.flight(), flying);
        c.due(pair + "the object is freed", x.collect(owner), 1);
        c.due(pair + "its slot is empty", x.slot(owner, at, 0), 0);
    }

    /** The object is freed while the surrogate is PENDING; once that is STALE, another PASS comes. */
    private static void goneForIt(int owner, int at, int client, int k) {
        String pair = "object of " + owner + " in slot " + at + " gone, surrogate of " + client + " in slot " + k + ": ";
        LeasedReferences x = new LeasedReferences();
        int third = thirdNode(owner, client);
        x.make(third, 0);
        x.pass(third, 0, client, 2);
        for (int i = 0; i <= at; i++) {
            x.make(owner, 0);
        }
        for (int i = 0; i < k; i++) {
            x.make(client, 0);
        }
        x.pass(owner, 0, client, 1);
        x.copy(1);
        x.drop(owner, 0);
        x.tick(12);
        x.tick(12);
        c.due(pair + "freed", x.collect(owner), at + 1);
        come(x, pair + "PASS");
        newest(x, Kind.DIRTY, client, owner, at + 1, 1, 24);
        come(x, pair + "DIRTY");
        newest(x, Kind.GONE, owner, client, at + 1, 1, 24);
        come(x, pair + "GONE");
        c.due(pair + "STALE", x.slot(client, k, 2), 2);
        c.due(pair + "its expiry", x.slot(client, k, 3), 24);
        x.drop(client, 1);
        x.copy(0);
        c.due(pair + "PASS again", x.deliver(1), 1);
        c.due(pair + "the same slot", x.root(client, 1), k);
        c.due(pair + "PENDING", x.slot(client, k, 2), 0);
        newest(x, Kind.DIRTY, client, owner, at + 1, 2, 24);
    }

    /** Six surrogates of the node, each pinned once, are passed back to their owner: each TAKEN ends its own pin. */
    private static void takenForEachPin(int node) {
        c.sentence("TAKEN: the pin with this id at the node, if it has one that did not end, ends; else it is dropped.");
        int owner = (node + 1) % 4;
        for (int taken = 0; taken < 6; taken++) {
            LeasedReferences x = new LeasedReferences();
            for (int i = 0; i < 6; i++) {
                x.make(owner, 0);
                x.pass(owner, 0, node, 0);
                for (int come = 0; come < 4; come++) {
                    x.deliver(i);
                }
                x.pass(node, 0, owner, 1);
                x.deliver(i);
                c.message(x, i, Kind.TAKEN, owner, node, i, 2 * i + 1, 0);
            }
            x.drop(node, 0);
            c.due("six pins of " + node, x.pins(node), 6);
            c.due("keep six slots", x.collect(node), 0);
            c.due("TAKEN for pin " + taken, x.deliver(taken), 1);
            c.due("five pins", x.pins(node), 5);
            c.due("keep five slots", x.collect(node), 1);
            c.due("but not slot " + taken, x.slot(node, taken, 0), 0);
        }
    }

    private static void everyTwoObjects(int client) {
        for (int one = 0; one < 32; one++) {
            for (int other = 0; other < 32; other++) {
                if (one != other && one / 8 != client && other / 8 != client) {
                    eachHasItsOwn(one / 8, one % 8, other / 8, other % 8, client);
                }
            }
        }
    }

    /** What comes for one object leaves LAST and the listing of the other. */
    private static void eachHasItsOwn(int owner, int at, int owner2, int at2, int client) {
        c.sentence("and for each other node a LAST number, 0 at first, and a LISTING");
        String pair = owner + " slot " + at + " and " + owner2 + " slot " + at2 + ", client " + client + ": ";
        LeasedReferences x = new LeasedReferences();
        for (int k = 0; k < 8; k++) {
            x.make(owner, k == at ? 0 : owner == owner2 && k == at2 ? 1 : 2);
            if (owner != owner2) {
                x.make(owner2, k == at2 ? 1 : 2);
            }
        }
        x.pass(owner, 0, client, 0);
        x.pass(owner2, 1, client, 1);
        Scenes.deliverOldest(x, 2);
        x.copy(0);
        x.copy(1);
        c.due(pair + "DIRTY 2 first", x.deliver(1), 1);
        c.due(pair + "lists for the second", x.listing(owner2, at2, client), 24);
        c.due(pair + "and not for the first", x.listing(owner, at, client), 0);
        x.tick(1);
        c.due(pair + "DIRTY 1", x.deliver(0), 1);
        c.due(pair + "lists for the first", x.listing(owner, at, client), 24);
        c.due(pair + "and leaves the second", x.listing(owner2, at2, client), 23);
        c.due(pair + "DIRTY 1 again", x.deliver(0), 1);
        c.due(pair + "DIRTY 2 again", x.deliver(0), 1);
        x.drop(client, 1);
        x.collect(client);
        c.due(pair + "CLEAN 3 for the second", x.deliver(x.flight() - 1), 1);
        c.due(pair + "leaves the first", x.listing(owner, at, client), 24);
        c.due(pair + "ends the second", x.listing(owner2, at2, client), 0);
        x.drop(client, 0);
        x.collect(client);
        x.copy(x.flight() - 1);
        c.due(pair + "CLEAN 4 for the first", x.deliver(x.flight() - 1), 1);
        c.due(pair + "ends the first", x.listing(owner, at, client), 0);
        c.due(pair + "CLEAN 4 again", x.deliver(x.flight() - 1), 0);
    }
}
