/** Promises 8, 9, 10, 14 and 15: deliver, lose, copy, flight, message. */
public final class NetworkTest {
    private static final int[] ODD = {-1, Integer.MIN_VALUE, Integer.MAX_VALUE};
    private static final Checks c = new Checks();

    public static void main(String[] args) {
        deliver();
        deliverAnswers();
        deliverFull();
        manyTakenOut();
        lose();
        copy();
        flight();
        message();
        c.end();
    }

    /** Three passes fly, with ids 0, 1, 2, to nodes 1, 2, 3. */
    private static LeasedReferences threeFly() {
        LeasedReferences x = new LeasedReferences();
        x.make(0, 0);
        x.pass(0, 0, 1, 0);
        x.pass(0, 0, 2, 1);
        x.pass(0, 0, 3, 2);
        return x;
    }

    private static void deliver() {
        c.sentence(8, "Takes the message at place k of the flight (0 is the oldest) out, and it comes to its receiver.");
        LeasedReferences x = threeFly();
        c.due("place 3", x.deliver(3), -1);
        for (int k : ODD) {
            c.due("place " + k, x.deliver(k), -1);
        }
        c.due("place 1", x.deliver(1), 1);
        c.due("its receiver", x.root(2, 1), 0);
        c.due("not the others", x.root(1, 0) + x.root(3, 2), -2);
        c.due("place 0 stays", x.message(0, 4), 0);
        c.due("place 2 moves up", x.message(1, 2), 3);
        c.due("what is sent is last", x.message(2, 0), 2);
        x.crash(3);
        c.due("to a crashed node: dropped", x.deliver(1), 0);
        c.due("it is out", x.flight(), 2);
        c.due("crashed nodes do nothing", x.root(3, 2), -1);
        x.crash(0);
        c.due("from a crashed node it comes", x.deliver(0), 1);
        c.due("an empty flight", new LeasedReferences().deliver(0), -1);
    }

    private static void deliverAnswers() {
        c.sentence(8, "Answers 0 when it is dropped, 1 when not.");
        for (int kind = Kind.PASS; kind <= Kind.NOOBJECT; kind++) {
            LeasedReferences x = Scenes.flying(kind);
            x.copy(0);
            c.due("kind " + kind, x.deliver(0), 1);
            boolean again = kind == Kind.PASS || kind == Kind.DIRTY || kind == Kind.LISTED || kind == Kind.CALL;
            c.due("kind " + kind + ", its copy", x.deliver(0), again ? 1 : 0);

            x = Scenes.flying(kind);
            x.crash(Scenes.receiver(kind));
            c.due("kind " + kind + ", its receiver crashed", x.deliver(0), 0);
            c.due("dropped is taken out, too", x.flight(), 0);
        }
    }

    private static void deliverFull() {
        c.promise(8, "deliver with 32 in flight");
        LeasedReferences x = threeFly();
        Scenes.fillFlight(x);
        c.due("not dropped", x.deliver(31), 1);
        c.due("there is room for what it sends", x.flight(), 32);
        c.due("DIRTY", x.message(31, 0), 2);
        c.due("with its serial", x.message(31, 3), 0);
        c.due("oldest stays", x.message(0, 0), 0);
    }

    private static void manyTakenOut() {
        c.promise(8, "places stay apart after many were taken out");
        LeasedReferences x = Scenes.known();
        x.pass(0, 0, 1, 1);
        Scenes.fillFlight(x);
        for (int i = 0; i < 32; i++) {
            c.due("lose", x.lose(i % 2 == 0 ? 0 : x.flight() - 1), true);
        }
        for (int i = 0; i < 31; i++) {
            x.call(1, 0, i);
            x.deliver(i);
            x.copy(i);
            c.due("the answer comes, its copy stays", x.deliver(i), 1);
        }
        int sum = 0;
        for (int i = 0; i < 31; i++) {
            sum += i;
            c.due("the number at " + i, x.message(i, 4), i + 1);
            c.due("the value at " + i, x.message(i, 5), sum);
        }
    }

    private static void lose() {
        c.sentence(9, "Takes the message at place k out of the flight; false when k is no place.");
        LeasedReferences x = threeFly();
        c.due("place 3", x.lose(3), false);
        for (int k : ODD) {
            c.due("place " + k, x.lose(k), false);
        }
        c.due("place 1", x.lose(1), true);
        c.due("flight", x.flight(), 2);
        c.due("place 0", x.message(0, 4), 0);
        c.due("place 1", x.message(1, 4), 2);
        c.due("it did not come", x.root(2, 1), -1);
        c.due("the pin stays", x.pins(0), 3);
        x.lose(0);
        x.lose(0);
        c.due("none left", x.lose(0), false);
    }

    private static void copy() {
        c.sentence(10, "Puts a copy of the message at place k at the end of the flight; false when k is no place or 32 are in "
                + "flight.");
        LeasedReferences x = threeFly();
        c.due("place 3", x.copy(3), false);
        for (int k : ODD) {
            c.due("place " + k, x.copy(k), false);
        }
        c.due("place 1", x.copy(1), true);
        c.due("flight", x.flight(), 4);
        for (int which = 0; which <= 5; which++) {
            c.due("the same", x.message(3, which), x.message(1, which));
        }
        c.due("the places before", x.message(2, 4), 2);
        c.due("a copy of the last", x.copy(3), true);
        x.lose(1);
        c.due("each is its own", x.message(3, 4), 1);
        for (int i = 4; i < 32; i++) {
            c.due("until 32", x.copy(0), true);
        }
        c.due("32 in flight", x.copy(0), false);
        c.due("32 still", x.flight(), 32);
        x.lose(31);
        c.due("31 in flight", x.copy(0), true);
        c.due("an empty flight", new LeasedReferences().copy(0), false);
    }

    private static void flight() {
        c.promise(14, "flight");
        LeasedReferences x = threeFly();
        c.due("three", x.flight(), 3);
        x.deliver(0);
        c.due("one out, one in", x.flight(), 3);
        x.lose(0);
        c.due("two", x.flight(), 2);
        Scenes.fillFlight(x);
        c.due("full", x.flight(), 32);
        x.tick(6);
        c.due("and no more", x.flight(), 32);
        c.due("empty", new LeasedReferences().flight(), 0);
    }

    private static void message() {
        c.promise(15, "message");
        LeasedReferences x = new LeasedReferences();
        x.make(1, 0);
        x.make(2, 0);
        x.pass(1, 0, 0, 0);
        x.pass(2, 0, 3, 1);
        int[] want = {0, 2, 3, 1, 1, 6};
        for (int which = 0; which < 6; which++) {
            c.due("part " + which, x.message(1, which), want[which]);
        }
        c.due("part 6", x.message(1, 6), -1);
        c.due("place 2", x.message(2, 0), -1);
        for (int odd : ODD) {
            c.due("part " + odd, x.message(1, odd), -1);
            c.due("place " + odd, x.message(odd, 0), -1);
        }
        c.due("looking changes nothing", x.flight(), 2);
    }
}
