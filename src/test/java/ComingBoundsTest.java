import java.util.function.Supplier;

/**
 * "When a message comes to a node": each sentence of that table, just below its boundary, at it, and beyond it.
 * A message that is dropped must leave what its loss would have left.
 */
public final class ComingBoundsTest {
    private static final int NONE = LeasedReferences.NONE;
    private static final int PENDING = 0;
    private static final int GOOD = 1;
    private static final int STALE = 2;
    private static final int WAITING = 1;
    private static final int DONE = 2;
    private static final int FAILED = 3;
    private static final Checks c = new Checks();

    public static void main(String[] args) {
        passIntoEachRoot();
        passToOwner();
        passToGood();
        passToPending();
        passToStale();
        passToFullNode();
        passToOwnerWithout();
        takenForPin();
        takenByTheClock();
        dirtyWithoutObject();
        dirtyAgainstLast();
        dirtyNotGreaterByTheClock();
        dirtyOfOtherClients();
        verdictWithoutSurrogate();
        verdictByTheClock();
        verdictAgainstFirst();
        listedExpiry();
        listedWhenPending();
        goneExpiry();
        cleanAgainstLast();
        cleanWithoutObject();
        cleanEndsListing();
        callAgainstLatest();
        callOfEachClient();
        callWraps();
        callWithoutObject();
        callWithoutObjectIsDone();
        keptReplyIsAsItWas();
        replyToWaitingCall();
        replyOfAnotherNumber();
        answerIsTheResult();
        c.end();
    }

    // ---- PASS ----

    private static void passIntoEachRoot() {
        c.sentence("When a message comes to a node: PASS (NUMBER the id, EXTRA 4 * the number of a root + the owner)");
        for (int owner = 0; owner <= 3; owner++) {
            for (int into = 0; into <= 2; into++) {
                int to = (owner + 1) % 4;
                LeasedReferences x = new LeasedReferences();
                x.make(owner, 0);
                x.pass(owner, 0, to, into);
                c.message(x, 0, Kind.PASS, owner, to, 0, 0, 4 * into + owner);
                c.due("it comes", x.deliver(0), 1);
                for (int root = 0; root <= 2; root++) {
                    c.due("root " + root, x.root(to, root), root == into ? 0 : NONE);
                }
                c.due("the owner", x.slot(to, 0, 4), owner);
            }
        }
    }

    private static void passToOwner() {
        c.sentence("if the node owns the object and has it, or has a GOOD surrogate for it, the root refers to it, and "
                + "TAKEN is sent to the sender, with the serial, the NUMBER and EXTRA 0.");
        LeasedReferences x = Scenes.known();
        x.make(0, 1);
        x.pass(1, 0, 0, 1);
        c.due("the owner", x.deliver(0), 1);
        c.due("its root", x.root(0, 1), 0);
        c.due("no surrogate for its own", x.slot(0, 2, 0), 0);
        c.due("one is sent", x.flight(), 1);
        c.message(x, 0, Kind.TAKEN, 0, 1, 0, 1, 0);
    }

    private static void passToGood() {
        c.sentence("or has a GOOD surrogate for it, the root refers to it, and TAKEN is sent to the sender");
        for (int after = 22; after <= 23; after++) {
            LeasedReferences x = Scenes.known();
            x.make(1, 2);
            Scenes.quietTicks(x, after);
            x.pass(0, 0, 1, 2);
            c.due("after " + after, x.deliver(0), 1);
            c.due("the root", x.root(1, 2), 0);
            c.due("GOOD", x.slot(1, 0, 2), GOOD);
            c.due("the expiry stays", x.slot(1, 0, 3), 24);
            c.due("one is sent", x.flight(), 1);
            c.message(x, 0, Kind.TAKEN, 1, 0, 0, 1, 0);
        }
        LeasedReferences x = Scenes.known();
        x.pass(0, 0, 2, 0);
        Scenes.deliverOldest(x, 4);
        x.pass(2, 0, 1, 1);
        c.due("the sender is not the owner", x.deliver(0), 1);
        c.message(x, 0, Kind.TAKEN, 1, 2, 0, 2, 0);
    }

    private static void passToPending() {
        c.sentence("If the node has a PENDING surrogate for it, the root refers to it, and it owes this pass now.");
        for (int after = 22; after <= 23; after++) {
            LeasedReferences x = Scenes.pending();
            Scenes.quietTicks(x, after);
            x.pass(0, 0, 1, 2);
            c.due("after " + after, x.deliver(0), 1);
            c.due("the root", x.root(1, 2), 0);
            c.due("PENDING", x.slot(1, 0, 2), PENDING);
            c.due("the expiry stays", x.slot(1, 0, 3), 24);
            c.due("nothing is sent", x.flight(), 0);
        }
        LeasedReferences x = Scenes.pending();
        x.pass(0, 0, 2, 0);
        x.deliver(1);
        x.deliver(1);
        x.deliver(1);
        x.lose(1);
        x.pass(2, 0, 1, 1);
        x.deliver(1);
        x.deliver(0);
        c.due("LISTED comes", x.deliver(0), 1);
        c.due("one TAKEN", x.flight(), 1);
        c.message(x, 0, Kind.TAKEN, 1, 2, 0, 2, 0);
    }

    private static void passToStale() {
        c.sentence("If it has a STALE one, this BECOMES PENDING, and the root refers to it.");
        for (int state = PENDING; state <= GOOD; state++) {
            for (int after = 24; after <= 25; after++) {
                LeasedReferences x = state == GOOD ? Scenes.known() : Scenes.pending();
                Scenes.quietTicks(x, after);
                c.due("STALE", x.slot(1, 0, 2), STALE);
                x.pass(0, 0, 1, 2);
                c.due("after " + after, x.deliver(0), 1);
                c.due("the root", x.root(1, 2), 0);
                c.due("no second surrogate", x.slot(1, 1, 0), 0);
                c.due("PENDING", x.slot(1, 0, 2), PENDING);
                c.due("the expiry", x.slot(1, 0, 3), after + 24);
                c.due("one is sent", x.flight(), 1);
                c.message(x, 0, Kind.DIRTY, 1, 0, 0, 5, after);
            }
        }
    }

    private static void passToFullNode() {
        c.sentence("If it has none and does not own the object, a surrogate is made in the least empty slot and "
                + "BECOMES PENDING, and the root refers to it; but if no slot is empty, the message is dropped.");
        for (int held = 0; held <= 7; held++) {
            LeasedReferences x = passToNodeWith(held);
            c.due("with " + held + " slots held", x.deliver(0), 1);
            c.due("the root", x.root(1, 2), held);
            c.due("a surrogate", x.slot(1, held, 0), 2);
            c.due("PENDING", x.slot(1, held, 2), PENDING);
            c.message(x, 0, Kind.DIRTY, 1, 0, 0, 1, 0);
        }
        Twins.dropped(c, "with 8 slots held", () -> passToNodeWith(8), 0);
        LeasedReferences x = passToNodeWith(8);
        x.deliver(0);
        c.due("nothing is sent", x.flight(), 0);
        c.due("the root stays", x.root(1, 2), 7);

        x = passToNodeWith(8);
        x.collect(1);
        c.due("7 became empty", x.deliver(0), 1);
        c.due("the least", x.root(1, 2), 0);
        leastEmptyOfHoles();
        fullNodeThatHasIt();
    }

    private static LeasedReferences passToNodeWith(int held) {
        LeasedReferences x = new LeasedReferences();
        x.make(0, 0);
        for (int i = 0; i < held; i++) {
            x.make(1, 2);
        }
        x.pass(0, 0, 1, 2);
        return x;
    }

    private static void leastEmptyOfHoles() {
        LeasedReferences x = new LeasedReferences();
        x.make(0, 0);
        for (int k = 0; k < 8; k++) {
            x.make(1, k == 0 ? 0 : k == 1 ? 1 : 2);
        }
        x.link(1, 0, 0, 2);
        x.drop(1, 2);
        x.collect(1);
        c.due("slots 0, 1 and 7 are held", x.slot(1, 0, 0) * 100 + x.slot(1, 1, 0) * 10 + x.slot(1, 7, 0), 111);
        x.pass(0, 0, 1, 2);
        x.deliver(0);
        c.due("slot 2 is the least", x.root(1, 2), 2);
    }

    private static void fullNodeThatHasIt() {
        for (int state = PENDING; state <= STALE; state++) {
            LeasedReferences x = state == PENDING ? Scenes.pending() : state == GOOD ? Scenes.known() : Scenes.stale();
            Scenes.loseAll(x);
            for (int i = 0; i < 7; i++) {
                x.make(1, 1);
            }
            x.pass(0, 0, 1, 2);
            c.due("a full node that has it in state " + state, x.deliver(0), 1);
            c.due("the root", x.root(1, 2), 0);
        }
    }

    private static void passToOwnerWithout() {
        c.sentence("If the node owns the object and does not have it any more, it is dropped.");
        Supplier<LeasedReferences> freed = () -> {
            LeasedReferences x = Scenes.known();
            x.pass(1, 0, 0, 1);
            x.drop(0, 0);
            Scenes.ticks(x, 24);
            x.collect(0);
            return x;
        };
        c.due("freed", freed.get().slot(0, 0, 0), 0);
        Twins.dropped(c, "the owner, with all slots empty", freed, 0);
        Twins.dropped(c, "the owner, with another object there", () -> {
            LeasedReferences x = freed.get();
            x.make(0, 0);
            return x;
        }, 0);
        LeasedReferences x = freed.get();
        x.deliver(0);
        c.due("no surrogate for its own", x.slot(0, 0, 0), 0);
        c.due("the root stays", x.root(0, 1), NONE);
    }

    // ---- TAKEN ----

    private static void takenForPin() {
        c.sentence("TAKEN: the pin with this id at the node, if it has one that did not end, ends; else it is dropped.");
        LeasedReferences x = new LeasedReferences();
        x.make(0, 0);
        x.pass(0, 0, 1, 0);
        x.pass(0, 0, 2, 0);
        x.pass(0, 0, 3, 0);
        Scenes.deliverOldest(x, 9);
        c.due("three TAKENs fly", x.flight(), 3);
        c.due("for the second", x.message(1, 4), 1);
        c.due("it ends", x.deliver(1), 1);
        c.due("two go on", x.pins(0), 2);
        c.due("the first", x.deliver(0), 1);
        c.due("one goes on", x.pins(0), 1);
        c.due("the third", x.deliver(0), 1);
        c.due("none", x.pins(0), 0);

        Supplier<LeasedReferences> again = () -> {
            LeasedReferences y = Scenes.flying(Kind.TAKEN);
            y.copy(0);
            y.deliver(0);
            return y;
        };
        Twins.dropped(c, "it ended by TAKEN", again, 0);
        Twins.dropped(c, "it ended, and another was made", () -> {
            LeasedReferences y = again.get();
            y.pass(0, 0, 2, 0);
            return y;
        }, 0);
        LeasedReferences other = again.get();
        other.pass(0, 0, 2, 0);
        other.deliver(0);
        c.due("the other goes on", other.pins(0), 1);
    }

    private static void takenByTheClock() {
        c.sentence("TAKEN: the pin with this id at the node, if it has one that did not end, ends; else it is dropped.");
        for (int after = 22; after <= 25; after++) {
            int waits = after;
            Supplier<LeasedReferences> late = () -> {
                LeasedReferences x = Scenes.flying(Kind.TAKEN);
                Scenes.ticks(x, waits);
                return x;
            };
            LeasedReferences x = late.get();
            c.due("TAKEN", x.message(0, 0), Kind.TAKEN);
            c.due("after " + after, x.deliver(0), after < 24 ? 1 : 0);
            c.due("pins", x.pins(0), 0);
            if (after >= 24) {
                Twins.dropped(c, "after " + after, late, 0);
            }
        }
    }

    // ---- DIRTY ----

    private static void dirtyWithoutObject() {
        c.sentence("DIRTY from c: if the node does not have the object, GONE is sent to c with the same SERIAL, NUMBER, "
                + "EXTRA.");
        for (int another = 0; another <= 1; another++) {
            LeasedReferences x = new LeasedReferences();
            x.make(0, 0);
            x.make(0, 1);
            x.tick(3);
            x.pass(0, 1, 2, 0);
            x.deliver(0);
            x.drop(0, 1);
            Scenes.ticks(x, 24);
            c.due("freed", x.collect(0), 1);
            if (another == 1) {
                x.make(0, 2);
                c.due("in the same slot", x.root(0, 2), 1);
            }
            c.message(x, 0, Kind.DIRTY, 2, 0, 1, 1, 3);
            int flying = x.flight();
            c.due("not dropped", x.deliver(0), 1);
            c.due("one is sent", x.flight(), flying);
            c.message(x, flying - 1, Kind.GONE, 0, 2, 1, 1, 3);
            c.due("no listing", x.listing(0, 1, 2), another == 1 ? 0 : NONE);
        }
    }

    /** Node 1's DIRTYs 1, 2, 3 fly, sent at 0, 6 and 12, and a copy of the second at place 3. */
    private static LeasedReferences threeDirtys() {
        LeasedReferences x = Scenes.pending();
        x.tick(12);
        x.copy(1);
        return x;
    }

    private static void dirtyAgainstLast() {
        c.sentence("If it has it and NUMBER is greater than the LAST of c, this becomes the NUMBER, c's LISTING lasts "
                + "until the clock + 24, and LISTED is sent to c with the same SERIAL, NUMBER, EXTRA.");
        LeasedReferences x = threeDirtys();
        c.due("2 > 0", x.deliver(1), 1);
        c.due("the clock + 24", x.listing(0, 0, 1), 24);
        c.message(x, 3, Kind.LISTED, 0, 1, 0, 2, 6);
        x.tick(1);
        c.due("2 = 2", x.deliver(2), 1);
        c.due("is not listed for longer", x.listing(0, 0, 1), 23);
        c.message(x, 3, Kind.LISTED, 0, 1, 0, 2, 6);
        c.due("1 < 2", x.deliver(0), 1);
        c.due("is not listed for longer", x.listing(0, 0, 1), 23);
        c.message(x, 3, Kind.LISTED, 0, 1, 0, 1, 0);
        c.due("3 > 2", x.deliver(0), 1);
        c.due("the clock + 24", x.listing(0, 0, 1), 24);
        c.message(x, 3, Kind.LISTED, 0, 1, 0, 3, 12);

        x = threeDirtys();
        x.deliver(1);
        x.tick(1);
        x.deliver(0);
        c.due("a lesser NUMBER does not become the LAST: 2 = 2", x.deliver(1), 1);
        c.due("is not listed for longer", x.listing(0, 0, 1), 23);
    }

    private static void dirtyNotGreaterByTheClock() {
        c.sentence("If NUMBER is not greater, LISTED is sent likewise if c's listing still lasts (the clock has not come "
                + "to its end); else it is dropped.");
        for (int after = 22; after <= 25; after++) {
            for (int place = 0; place <= 1; place++) {
                int waits = after;
                int less = place;
                Supplier<LeasedReferences> late = () -> {
                    LeasedReferences x = threeDirtys();
                    x.deliver(1);
                    x.lose(3);
                    x.lose(1);
                    Scenes.ticks(x, waits);
                    return x;
                };
                LeasedReferences x = late.get();
                int flying = x.flight();
                c.due("NUMBER", x.message(less, 4), 1 + less);
                c.due("the listing", x.listing(0, 0, 1), Math.max(0, 24 - after));
                c.due("after " + after, x.deliver(less), after < 24 ? 1 : 0);
                c.due("LISTED, or nothing", x.flight(), after < 24 ? flying : flying - 1);
                c.due("the listing is as it was", x.listing(0, 0, 1), Math.max(0, 24 - after));
                if (after < 24) {
                    c.message(x, flying - 1, Kind.LISTED, 0, 1, 0, 1 + less, 6 * less);
                } else {
                    Twins.dropped(c, "after " + after, late, less);
                }
            }
        }
        Supplier<LeasedReferences> cleaned = () -> {
            LeasedReferences x = Scenes.pending();
            x.drop(1, 0);
            x.collect(1);
            x.deliver(1);
            return x;
        };
        Twins.dropped(c, "the listing ended by a CLEAN that came before", cleaned, 0);
    }

    private static void dirtyOfOtherClients() {
        c.sentence("If it has it and NUMBER is greater than the LAST of c");
        LeasedReferences x = threeDirtys();
        x.deliver(2);
        Scenes.loseAll(x);
        x.pass(0, 0, 3, 0);
        x.deliver(0);
        c.due("node 3's first number", x.message(0, 4), 1);
        c.due("is greater than its own LAST", x.deliver(0), 1);
        c.due("listed", x.listing(0, 0, 3), 24);
        c.due("node 2 is not", x.listing(0, 0, 2), 0);
        x.make(0, 1);
        x.pass(0, 1, 1, 1);
        x.deliver(1);
        c.due("node 1's number for another object", x.message(1, 4), 4);
        x.deliver(1);
        c.due("each object has its own LAST and listing", x.listing(0, 1, 1), 24);
    }

    // ---- LISTED and GONE ----

    private static void verdictWithoutSurrogate() {
        c.sentence("LISTED and GONE: dropped unless the node has a surrogate with that serial");
        int[] kinds = {Kind.LISTED, Kind.GONE};
        for (int kind : kinds) {
            c.due("with it", Scenes.flying(kind).deliver(0), 1);
            Supplier<LeasedReferences> without = () -> {
                LeasedReferences x = Scenes.flying(kind);
                x.drop(1, 0);
                x.collect(1);
                return x;
            };
            Twins.dropped(c, "kind " + kind + " without it", without, 0);
            Twins.dropped(c, "kind " + kind + " with an object in its slot", () -> {
                LeasedReferences x = without.get();
                x.make(1, 0);
                return x;
            }, 0);
            Twins.dropped(c, "kind " + kind + " with another surrogate in its slot", () -> {
                LeasedReferences x = without.get();
                x.make(2, 0);
                x.pass(2, 0, 1, 0);
                x.deliver(x.flight() - 1);
                return x;
            }, 0);
        }
    }

    private static void verdictByTheClock() {
        c.sentence("dropped unless the node has a surrogate with that serial which is not STALE");
        int[] kinds = {Kind.LISTED, Kind.GONE};
        for (int kind : kinds) {
            for (int after = 22; after <= 25; after++) {
                int waits = after;
                Supplier<LeasedReferences> late = () -> {
                    LeasedReferences x = Scenes.flying(kind);
                    Scenes.ticks(x, waits);
                    return x;
                };
                LeasedReferences x = late.get();
                c.due("PENDING or STALE", x.slot(1, 0, 2), after < 24 ? PENDING : STALE);
                c.due("kind " + kind + " after " + after, x.deliver(0), after < 24 ? 1 : 0);
                int state = after < 24 && kind == Kind.LISTED ? GOOD : STALE;
                c.due("the state", x.slot(1, 0, 2), state);
                if (after >= 24) {
                    Twins.dropped(c, "kind " + kind + " after " + after, late, 0);
                }
            }
        }
    }

    /** Verdicts on node 1's DIRTYs 4, 5 and 6 at places 3, 4 and 5; its surrogate is PENDING, with FIRST 5. */
    private static LeasedReferences verdicts(int kind) {
        LeasedReferences x = Scenes.flying(Kind.PASS);
        x.copy(0);
        x.deliver(0);
        Scenes.ticks(x, 24);
        if (kind == Kind.GONE) {
            x.drop(0, 0);
            x.collect(0);
        }
        x.deliver(4);
        x.deliver(0);
        x.deliver(4);
        x.tick(6);
        x.deliver(5);
        return x;
    }

    private static void verdictAgainstFirst() {
        c.sentence("and NUMBER is not less than its FIRST.");
        int[] kinds = {Kind.LISTED, Kind.GONE};
        for (int kind : kinds) {
            for (int number = 4; number <= 6; number++) {
                LeasedReferences x = verdicts(kind);
                int k = number - 1;
                c.due("PENDING", x.slot(1, 0, 2), PENDING);
                c.due("the kind", x.message(k, 0), kind);
                c.due("NUMBER", x.message(k, 4), number);
                c.due("kind " + kind + " NUMBER " + number + " FIRST 5", x.deliver(k), number < 5 ? 0 : 1);
                int taken = kind == Kind.LISTED ? GOOD : STALE;
                c.due("the state", x.slot(1, 0, 2), number < 5 ? PENDING : taken);
            }
            Twins.dropped(c, "kind " + kind + " NUMBER 4 FIRST 5", () -> verdicts(kind), 3);
        }
    }

    private static void listedExpiry() {
        c.sentence("LISTED: its expiry becomes EXTRA + 24, if that is greater");
        int[] clocks = {0, 6, 12};
        for (int i = 0; i <= 2; i++) {
            LeasedReferences x = threeDirtys();
            x.lose(3);
            Scenes.deliverOldest(x, 3);
            c.due("EXTRA", x.message(i, 5), clocks[i]);
            c.due("not dropped", x.deliver(i), 1);
            c.due("EXTRA + 24, at least the 24 that it was", x.slot(1, 0, 3), clocks[i] + 24);
        }
        LeasedReferences x = threeDirtys();
        x.lose(3);
        Scenes.deliverOldest(x, 3);
        x.copy(1);
        x.deliver(1);
        c.due("30", x.slot(1, 0, 3), 30);
        c.due("EXTRA + 24 is equal", x.deliver(2), 1);
        c.due("30 still", x.slot(1, 0, 3), 30);
        c.due("EXTRA + 24 is less", x.deliver(0), 1);
        c.due("30 still", x.slot(1, 0, 3), 30);
        c.due("EXTRA + 24 is greater", x.deliver(0), 1);
        c.due("36", x.slot(1, 0, 3), 36);
    }

    private static void listedWhenPending() {
        c.sentence("and if it was PENDING, it is GOOD now, and TAKEN is sent to the sender of the pass that it owes, with "
                + "the serial, the id and EXTRA 0; then it owes nothing.");
        LeasedReferences x = new LeasedReferences();
        x.make(3, 0);
        x.make(0, 0);
        x.tick(2);
        x.pass(0, 0, 2, 1);
        x.deliver(0);
        x.deliver(0);
        x.copy(0);
        c.due("the first", x.deliver(0), 1);
        c.due("GOOD", x.slot(2, 0, 2), GOOD);
        c.due("TAKEN is sent", x.flight(), 2);
        c.message(x, 1, Kind.TAKEN, 2, 0, 1, 0, 0);
        c.due("it was GOOD", x.deliver(0), 1);
        c.due("nothing is sent", x.flight(), 1);
    }

    private static void goneExpiry() {
        c.sentence("GONE: its expiry becomes the clock.");
        for (int after = 0; after <= 23; after += 23) {
            LeasedReferences x = Scenes.flying(Kind.GONE);
            Scenes.ticks(x, after);
            int flying = x.flight();
            c.due("before", x.slot(1, 0, 3), 48);
            c.due("after " + after, x.deliver(0), 1);
            c.due("the clock", x.slot(1, 0, 3), 24 + after);
            c.due("STALE at once", x.slot(1, 0, 2), STALE);
            c.due("nothing is sent", x.flight(), flying - 1);
            c.due("the root stays", x.root(1, 0), 0);
        }
    }

    // ---- CLEAN ----

    private static void cleanAgainstLast() {
        c.sentence("CLEAN from c: if the node has the object and NUMBER is greater than the LAST of c, this becomes the "
                + "NUMBER, and c's listing ends; else it is dropped.");
        LeasedReferences x = Scenes.flying(Kind.CLEAN);
        c.due("the listing", x.listing(0, 0, 1), 24);
        c.due("2 > 1", x.deliver(0), 1);
        c.due("the listing ended", x.listing(0, 0, 1), 0);
        Twins.dropped(c, "2 = 2", () -> {
            LeasedReferences y = Scenes.flying(Kind.CLEAN);
            y.copy(0);
            y.deliver(0);
            return y;
        }, 0);
        Supplier<LeasedReferences> late = () -> {
            LeasedReferences y = Scenes.flying(Kind.CLEAN);
            y.pass(0, 0, 1, 0);
            y.deliver(1);
            y.deliver(1);
            return y;
        };
        Twins.dropped(c, "2 < 3", late, 0);
        x = late.get();
        x.deliver(0);
        c.due("the new listing lasts", x.listing(0, 0, 1), 24);

        x = Scenes.pending();
        x.drop(1, 0);
        x.collect(1);
        c.due("2 > 0, before the DIRTY", x.deliver(1), 1);
        Twins.dropped(c, "LAST is 2: the DIRTY 1 comes too late", () -> {
            LeasedReferences y = Scenes.pending();
            y.drop(1, 0);
            y.collect(1);
            y.deliver(1);
            return y;
        }, 0);
    }

    private static void cleanWithoutObject() {
        c.sentence("CLEAN from c: if the node has the object");
        for (int another = 0; another <= 1; another++) {
            int made = another;
            Twins.dropped(c, "without it, another: " + another, () -> {
                LeasedReferences x = Scenes.flying(Kind.CLEAN);
                x.drop(0, 0);
                Scenes.ticks(x, 24);
                x.collect(0);
                if (made == 1) {
                    x.make(0, 0);
                    x.pass(0, 0, 1, 0);
                    x.deliver(1);
                    x.deliver(1);
                }
                return x;
            }, 0);
        }
    }

    private static void cleanEndsListing() {
        c.sentence("and c's listing ends");
        LeasedReferences x = Scenes.known();
        x.pass(0, 0, 2, 0);
        Scenes.deliverOldest(x, 4);
        x.drop(1, 0);
        x.collect(1);
        x.deliver(0);
        c.due("node 1's", x.listing(0, 0, 1), 0);
        c.due("not node 2's", x.listing(0, 0, 2), 24);
        x = Scenes.flying(Kind.CLEAN);
        Scenes.ticks(x, 25);
        c.due("also when it ended by the clock it is not dropped", x.deliver(0), 1);
        c.due("and has not begun again", x.listing(0, 0, 1), 0);
    }

    // ---- CALL ----

    private static void callAgainstLatest() {
        c.sentence("CALL from c (NUMBER its number, EXTRA an amount): if NUMBER is greater than that of the latest call from "
                + "c that the node has done (0 when there is none): it is done");
        LeasedReferences x = Scenes.flying(Kind.CALL);
        x.copy(0);
        x.copy(0);
        c.due("1 > 0", x.deliver(0), 1);
        c.due("the value", x.slot(0, 0, 2), 5);
        c.message(x, 2, Kind.ANSWER, 0, 1, 0, 1, 5);
        c.due("1 = 1", x.deliver(0), 1);
        c.due("is not done again", x.slot(0, 0, 2), 5);
        c.message(x, 2, Kind.ANSWER, 0, 1, 0, 1, 5);
        x.lose(2);
        x.deliver(1);
        x.call(1, 0, 20);
        c.due("2 > 1", x.deliver(1), 1);
        c.due("the value", x.slot(0, 0, 2), 25);
        c.message(x, 1, Kind.ANSWER, 0, 1, 0, 2, 25);
        c.due("1 < 2", x.deliver(0), 0);
        c.due("the value", x.slot(0, 0, 2), 25);
        Twins.dropped(c, "1 < 2", () -> {
            LeasedReferences y = Scenes.flying(Kind.CALL);
            y.copy(0);
            y.deliver(0);
            y.deliver(1);
            y.call(1, 0, 20);
            y.deliver(1);
            return y;
        }, 0);
    }

    private static void callOfEachClient() {
        c.sentence("the latest call from c that the node has done (0 when there is none)");
        for (int owner = 0; owner <= 3; owner++) {
            LeasedReferences x = new LeasedReferences();
            x.make((owner + 1) % 4, 2);
            x.make(owner, 0);
            int value = 0;
            for (int client = 3; client >= 0; client--) {
                if (client != owner) {
                    x.pass(owner, 0, client, 0);
                    Scenes.deliverOldest(x, 4);
                    for (int number = 1; number <= 1 + client; number++) {
                        value += 10 * client + 1;
                        c.due("a call from " + client, x.call(client, 0, 10 * client + 1), number);
                        c.due("is done whatever the others' numbers are", x.deliver(0), 1);
                        c.message(x, 0, Kind.ANSWER, owner, client, 1, number, value);
                        c.due("and answered", x.deliver(0), 1);
                    }
                }
            }
        }
    }

    private static void callWraps() {
        c.sentence("it is done: if the node has the object, the amount is added to its value (wrapping), and the reply is "
                + "ANSWER with the serial, NUMBER and the value as EXTRA");
        int most = Integer.MAX_VALUE;
        int least = Integer.MIN_VALUE;
        int[] amounts = {most - 1, 1, 1, -1, least, least, -1, most, most, 0};
        int[] values = {most - 1, most, least, most, -1, most, most - 1, -3, most - 3, most - 3};
        LeasedReferences x = Scenes.known();
        for (int i = 0; i < amounts.length; i++) {
            x.call(1, 0, amounts[i]);
            x.deliver(0);
            c.due("the value after " + amounts[i], x.slot(0, 0, 2), values[i]);
            c.message(x, 0, Kind.ANSWER, 0, 1, 0, i + 1, values[i]);
            c.due("ANSWER comes", x.deliver(0), 1);
            c.due("RESULT", x.outcome(1, 2), values[i]);
        }
    }

    private static void callWithoutObject() {
        c.sentence("else the reply is NOOBJECT with the serial, NUMBER and EXTRA 0.");
        LeasedReferences x = Scenes.flying(Kind.NOOBJECT);
        c.due("one flies", x.flight(), 1);
        c.message(x, 0, Kind.NOOBJECT, 0, 1, 0, 1, 0);

        x = new LeasedReferences();
        x.make(0, 0);
        x.make(0, 1);
        x.pass(0, 1, 3, 0);
        Scenes.deliverOldest(x, 4);
        x.call(3, 0, 4);
        Scenes.deliverOldest(x, 2);
        x.drop(0, 1);
        Scenes.quietTicks(x, 23);
        x.call(3, 0, 5);
        x.tick(1);
        c.due("freed", x.collect(0), 1);
        c.due("not dropped", x.deliver(0), 1);
        c.message(x, 0, Kind.NOOBJECT, 0, 3, 1, 2, 0);
        c.due("no other object's value", x.slot(0, 0, 2), 0);
    }

    /** CALL 1, for an object that is there, comes only when CALL 2, for one that is gone, came. */
    private static void callWithoutObjectIsDone() {
        c.sentence("the latest call from c that the node has done");
        LeasedReferences x = Scenes.known();
        x.make(0, 1);
        Scenes.quietTicks(x, 22);
        x.pass(0, 1, 1, 1);
        Scenes.deliverOldest(x, 4);
        x.drop(0, 1);
        c.due("call", x.call(1, 0, 5), 1);
        x.tick(3);
        c.due("it FAILED", x.outcome(1, 0), FAILED);
        x.tick(12);
        x.tick(8);
        c.due("clock 45: the other surrogate is GOOD", x.call(1, 1, 7), 2);
        x.tick(1);
        c.due("its object is freed", x.collect(0), 1);
        c.due("CALL 2", x.deliver(x.flight() - 1), 1);
        c.message(x, x.flight() - 1, Kind.NOOBJECT, 0, 1, 1, 2, 0);
        c.message(x, 0, Kind.CALL, 1, 0, 0, 1, 5);
        c.due("1 < 2", x.deliver(0), 0);
        c.due("its object's value", x.slot(0, 0, 2), 0);
    }

    private static void keptReplyIsAsItWas() {
        c.sentence("The reply is kept and sent. If NUMBER is that of the latest call, the kept reply is sent again; if it is "
                + "less, it is dropped.");
        LeasedReferences x = Scenes.known();
        x.pass(0, 0, 2, 0);
        Scenes.deliverOldest(x, 4);
        x.call(1, 0, 5);
        x.copy(0);
        x.deliver(0);
        x.lose(1);
        x.call(2, 0, 70);
        x.deliver(1);
        x.lose(1);
        c.due("the value went on", x.slot(0, 0, 2), 75);
        c.due("sent again", x.deliver(0), 1);
        c.message(x, 0, Kind.ANSWER, 0, 1, 0, 1, 5);
        c.due("the value", x.slot(0, 0, 2), 75);

        x = Scenes.flying(Kind.CALL);
        x.copy(0);
        x.deliver(0);
        x.drop(0, 0);
        Scenes.ticks(x, 24);
        c.due("freed", x.collect(0), 1);
        c.due("though the object is gone", x.deliver(0), 1);
        c.message(x, x.flight() - 1, Kind.ANSWER, 0, 1, 0, 1, 5);

        x = Scenes.known();
        x.drop(0, 0);
        Scenes.quietTicks(x, 23);
        x.call(1, 0, 5);
        x.copy(0);
        x.tick(1);
        x.collect(0);
        x.deliver(0);
        c.due("NOOBJECT, too", x.deliver(0), 1);
        c.message(x, 1, Kind.NOOBJECT, 0, 1, 0, 1, 0);
    }

    // ---- ANSWER and NOOBJECT ----

    private static void replyToWaitingCall() {
        c.sentence("ANSWER and NOOBJECT: dropped unless the node's call WAITS and has this number. ANSWER: the call is "
                + "DONE, its RESULT is EXTRA. NOOBJECT: the call FAILED.");
        int[] kinds = {Kind.ANSWER, Kind.NOOBJECT};
        for (int kind : kinds) {
            LeasedReferences x = Scenes.flying(kind);
            c.due("WAITING", x.outcome(1, 0), WAITING);
            c.due("kind " + kind, x.deliver(0), 1);
            c.due("DONE or FAILED", x.outcome(1, 0), kind == Kind.ANSWER ? DONE : FAILED);
            c.due("RESULT", x.outcome(1, 2), kind == Kind.ANSWER ? 5 : 0);
            Twins.dropped(c, "kind " + kind + " again, when the call does not WAIT", () -> {
                LeasedReferences y = Scenes.flying(kind);
                y.copy(0);
                y.deliver(0);
                return y;
            }, 0);
        }
        Twins.dropped(c, "ANSWER when the call FAILED", () -> {
            LeasedReferences y = Scenes.known();
            Scenes.quietTicks(y, 23);
            y.call(1, 0, 5);
            y.deliver(0);
            y.tick(3);
            c.due("FAILED", y.outcome(1, 0), FAILED);
            return y;
        }, 0);
    }

    private static void replyOfAnotherNumber() {
        c.sentence("dropped unless the node's call WAITS and has this number.");
        Supplier<LeasedReferences> answer = () -> {
            LeasedReferences x = Scenes.flying(Kind.ANSWER);
            x.copy(0);
            x.deliver(0);
            x.call(1, 0, 1);
            return x;
        };
        Twins.dropped(c, "ANSWER 1 while 2 WAITS", answer, 0);
        LeasedReferences x = answer.get();
        x.deliver(0);
        c.due("WAITING", x.outcome(1, 0), WAITING);
        x.deliver(0);
        c.due("ANSWER 2", x.deliver(0), 1);
        c.due("RESULT", x.outcome(1, 2), 6);

        Supplier<LeasedReferences> noObject = () -> {
            LeasedReferences y = Scenes.flying(Kind.NOOBJECT);
            y.copy(0);
            y.deliver(0);
            y.make(2, 0);
            y.pass(2, 0, 1, 1);
            for (int i = 0; i < 4; i++) {
                y.deliver(1);
            }
            y.call(1, 1, 1);
            return y;
        };
        c.due("2 WAITS", noObject.get().outcome(1, 1), 2);
        Twins.dropped(c, "NOOBJECT 1 while 2 WAITS", noObject, 0);
    }

    private static void answerIsTheResult() {
        c.sentence("ANSWER: the call is DONE, its RESULT is EXTRA.");
        int[] values = {-1, -2, 0, Integer.MIN_VALUE, Integer.MAX_VALUE};
        for (int value : values) {
            LeasedReferences x = Scenes.known();
            x.call(1, 0, value);
            Scenes.deliverOldest(x, 2);
            c.due("DONE", x.outcome(1, 0), DONE);
            c.due("RESULT", x.outcome(1, 2), value);
            c.due("the value", x.slot(0, 0, 2), value);
        }
    }
}
