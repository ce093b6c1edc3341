/**
 * What the document says of a node, a slot, a root or a field it says of each of them: every call of the face with
 * each argument that is there. (What is not there: RefusalsTest; messages between any two nodes: EverySlotTest.)
 */
public final class EveryArgumentTest {
    private static final int NONE = LeasedReferences.NONE;
    private static final Checks c = new Checks();

    public static void main(String[] args) {
        for (int node = 0; node < 4; node++) {
            for (int root = 0; root < 3; root++) {
                make(node, root);
                link(node, root);
                fetch(node, root);
                drop(node, root);
                pass(node, root);
                call(node, root);
            }
            collect(node);
            crash(node);
            slots(node);
            pins(node);
            for (int client = 0; client < 4; client++) {
                if (client != node) {
                    listings(node, client);
                }
            }
        }
        c.end();
    }

    /** Objects in slots 0, 1 and 2 of the node, to which roots 0, 1 and 2 refer. */
    private static LeasedReferences three(int node) {
        LeasedReferences x = new LeasedReferences();
        for (int root = 0; root < 3; root++) {
            x.make(node, root);
        }
        return x;
    }

    private static void make(int node, int root) {
        c.sentence(2, "Makes an object in the least empty slot of the node, to which the root then refers: its serial.");
        LeasedReferences x = new LeasedReferences();
        for (int k = 0; k < 8; k++) {
            c.due("make(" + node + ", " + root + ")", x.make(node, root), k);
            for (int n = 0; n < 4; n++) {
                for (int r = 0; r < 3; r++) {
                    c.due("root(" + n + ", " + r + ")", x.root(n, r), n == node && r == root ? k : NONE);
                }
                c.due("slot(" + n + ", " + k + ", 0)", x.slot(n, k, 0), n == node ? 1 : 0);
            }
            c.due("slot(" + node + ", " + k + ", 1)", x.slot(node, k, 1), k);
        }
        c.due("full", x.make(node, root), NONE);
    }

    private static void link(int node, int root) {
        c.sentence(3, "The field of the object to which the root refers becomes what root from refers to, or nothing if from "
                + "is -1 or refers to nothing.");
        for (int field = 0; field < 2; field++) {
            for (int from = -1; from < 3; from++) {
                LeasedReferences x = three(node);
                String call = "link(" + node + ", " + root + ", " + field + ", " + from + ")";
                c.due(call, x.link(node, root, field, from), true);
                for (int k = 0; k < 3; k++) {
                    c.due(call + ": field 0 of " + k, x.slot(node, k, 3), k == root && field == 0 ? from : NONE);
                    c.due(call + ": field 1 of " + k, x.slot(node, k, 4), k == root && field == 1 ? from : NONE);
                    c.due(call + ": root " + k, x.root(node, k), k);
                }
                if (from != -1 && from != root) {
                    x.drop(node, from);
                    c.due(call + " from nothing", x.link(node, root, field, from), true);
                    c.due(call + " from nothing: nothing", x.slot(node, root, 3 + field), NONE);
                }
            }
        }
    }

    private static void fetch(int node, int root) {
        c.sentence(4, "Root into refers to what the field of the object to which the root refers refers to (perhaps nothing: "
                + "then it refers to nothing).");
        for (int field = 0; field < 2; field++) {
            for (int into = 0; into < 3; into++) {
                for (int what = -1; what < 3; what++) {
                    LeasedReferences x = three(node);
                    x.link(node, root, field, what);
                    x.link(node, root, 1 - field, 1);
                    String call = "fetch(" + node + ", " + root + ", " + field + ", " + into + ")";
                    c.due(call, x.fetch(node, root, field, into), true);
                    for (int r = 0; r < 3; r++) {
                        c.due(call + ": root " + r, x.root(node, r), r == into ? what : r);
                    }
                }
            }
        }
    }

    private static void drop(int node, int root) {
        c.sentence(5, "The root refers to nothing (it may be so already).");
        LeasedReferences x = three(node);
        for (int times = 1; times <= 2; times++) {
            c.due("drop(" + node + ", " + root + ")", x.drop(node, root), true);
            for (int r = 0; r < 3; r++) {
                c.due("root " + r, x.root(node, r), r == root ? NONE : r);
            }
        }
    }

    private static void pass(int node, int root) {
        c.sentence(6, "Passes what the root refers to on to root into of node to: a pin for its slot with the next id is made");
        for (int to = 0; to < 4; to++) {
            for (int into = 0; into < 3 && to != node; into++) {
                LeasedReferences x = three(node);
                String call = "pass(" + node + ", " + root + ", " + to + ", " + into + ")";
                c.due(call, x.pass(node, root, to, into), 0);
                c.message(x, 0, Kind.PASS, node, to, root, 0, 4 * into + node);
                c.due(call + ": pins", x.pins(node), 1);
                for (int r = 0; r < 3; r++) {
                    x.drop(node, r);
                }
                c.due(call + ": two slots are not pinned", x.collect(node), 2);
                c.due(call + ": one is", x.slot(node, root, 0), 1);
                c.due(call + ": comes", x.deliver(0), 1);
                for (int r = 0; r < 3; r++) {
                    c.due(call + ": root " + r, x.root(to, r), r == into ? 0 : NONE);
                }
                c.due(call + ": the serial", x.slot(to, 0, 1), root);
                c.due(call + ": the owner", x.slot(to, 0, 4), node);
            }
        }
    }

    private static void call(int node, int root) {
        c.sentence(7, "The node's call becomes a new one, WAITING, for the surrogate to which the root refers; CALL with the "
                + "serial, the number and the amount is sent to the owner. Answers the number.");
        for (int owner = 0; owner < 4; owner++) {
            if (owner != node) {
                LeasedReferences x = three(owner);
                for (int r = 0; r < 3; r++) {
                    x.pass(owner, r, node, r);
                    Scenes.deliverOldest(x, 4);
                }
                c.due("call(" + node + ", " + root + ", ..)", x.call(node, root, 40 + root), 1);
                c.message(x, 0, Kind.CALL, node, owner, root, 1, 40 + root);
                for (int n = 0; n < 4; n++) {
                    c.due("the state of " + n, x.outcome(n, 0), n == node ? 1 : 0);
                    c.due("the number of " + n, x.outcome(n, 1), n == node ? 1 : 0);
                }
                Scenes.deliverOldest(x, 2);
                c.due("the RESULT", x.outcome(node, 2), 40 + root);
                c.due("the value", x.slot(owner, root, 2), 40 + root);
            }
        }
    }

    private static void collect(int node) {
        c.sentence(12, "COLLECTING at the node: how many slots became empty.");
        for (int kept = 0; kept < 8; kept++) {
            LeasedReferences x = new LeasedReferences();
            for (int k = 0; k < 8; k++) {
                x.make(node, k == kept ? 1 : 0);
                x.make((node + 1) % 4, 0);
            }
            x.drop(node, 0);
            c.due("collect(" + node + ")", x.collect(node), 7);
            for (int k = 0; k < 8; k++) {
                c.due("slot " + k, x.slot(node, k, 0), k == kept ? 1 : 0);
                c.due("slot " + k + " of another node", x.slot((node + 1) % 4, k, 0), 1);
            }
        }
    }

    private static void crash(int node) {
        c.sentence(13, "The node crashes (false for one that crashed).");
        LeasedReferences x = new LeasedReferences();
        c.due("crash(" + node + ")", x.crash(node), true);
        c.due("again", x.crash(node), false);
        for (int n = 0; n < 4; n++) {
            c.due("drop in " + n, x.drop(n, 0), n != node);
        }
    }

    private static void slots(int node) {
        c.sentence(17, "Of a slot (of a node that crashed, too): 0 what it holds (0 nothing, 1 an object, 2 a surrogate)");
        int owner = (node + 3) % 4;
        for (int k = 0; k < 8; k++) {
            LeasedReferences x = new LeasedReferences();
            x.tick(1);
            for (int i = 0; i < k; i++) {
                x.make(node, i % 2);
            }
            x.make(node, 2);
            x.link(node, 2, 0, 2);
            x.link(node, 2, 1, 0);
            int[] object = {1, k, 0, k, k == 0 ? NONE : (k - 1) / 2 * 2};
            for (int crashes = 0; crashes < 2; crashes++) {
                for (int which = 0; which < 5; which++) {
                    c.due("slot(" + node + ", " + k + ", " + which + ")", x.slot(node, k, which), object[which]);
                }
                for (int empty = k + 1; empty < 8; empty++) {
                    c.due("slot(" + node + ", " + empty + ", 0)", x.slot(node, empty, 0), 0);
                }
                x.crash(node);
            }
            x = new LeasedReferences();
            x.tick(1);
            for (int i = 0; i < k; i++) {
                x.make(node, 0);
            }
            x.make(owner, 1);
            x.pass(owner, 1, node, 1);
            x.deliver(0);
            int[] surrogate = {2, k, 0, 25, owner};
            for (int crashes = 0; crashes < 2; crashes++) {
                for (int which = 0; which < 5; which++) {
                    c.due("slot(" + node + ", " + k + ", " + which + ")", x.slot(node, k, which), surrogate[which]);
                }
                x.crash(node);
            }
        }
    }

    private static void pins(int node) {
        c.sentence(19, "How many pins of the node did not end (of one that crashed, too)");
        LeasedReferences x = three(node);
        for (int pins = 1; pins <= 6; pins++) {
            c.due("pass", x.pass(node, pins % 3, (node + 1) % 4, 0), pins - 1);
            for (int n = 0; n < 4; n++) {
                c.due("pins(" + n + ")", x.pins(n), n == node ? pins : 0);
            }
        }
        x.crash(node);
        c.due("crashed", x.pins(node), 6);
    }

    private static void listings(int owner, int client) {
        c.sentence(18, "How much longer the listing of a node for the object in a slot lasts; 0 when it does not");
        for (int k = 0; k < 8; k++) {
            LeasedReferences x = new LeasedReferences();
            for (int i = 0; i < 8; i++) {
                x.make(owner, i == k ? 1 : 0);
            }
            x.pass(owner, 1, client, 0);
            Scenes.deliverOldest(x, 2);
            for (int crashes = 0; crashes < 2; crashes++) {
                for (int slot = 0; slot < 8; slot++) {
                    for (int n = 0; n < 4; n++) {
                        int due = n == owner ? NONE : slot == k && n == client ? 24 - crashes : 0;
                        c.due("listing(" + owner + ", " + slot + ", " + n + ")", x.listing(owner, slot, n), due);
                    }
                }
                x.crash(owner);
                x.tick(1);
            }
        }
    }
}
