/** Promises 7 and 20, and what CALL, ANSWER and NOOBJECT do when they come (promise 8). */
public final class CallTest {
    private static final int NONE_YET = 0;
    private static final int WAITING = 1;
    private static final int DONE = 2;
    private static final int FAILED = 3;
    private static final Checks c = new Checks();

    public static void main(String[] args) {
        call();
        callRefused();
        callStale();
        callLost();
        callComes();
        callComesAgain();
        callAtAnotherSlot();
        callComesToFreedObject();
        clientsApart();
        valueWraps();
        replyComes();
        outcome();
        c.end();
    }

    private static void call() {
        c.sentence(7, "The node's call becomes a new one, WAITING, for the surrogate to which the root refers; CALL with the "
                + "serial, the number and the amount is sent to the owner. Answers the number.");
        LeasedReferences x = Scenes.known();
        c.due("the first number", x.call(1, 0, -1), 1);
        c.due("WAITING", x.outcome(1, 0), WAITING);
        c.due("one message", x.flight(), 1);
        c.message(x, 0, Kind.CALL, 1, 0, 0, 1, -1);
        Scenes.deliverOldest(x, 2);
        c.due("the second", x.call(1, 0, 7), 2);
        c.message(x, 0, Kind.CALL, 1, 0, 0, 2, 7);
        x.drop(1, 0);
        c.due("its surrogate is kept while it waits", x.collect(1), 0);
        Scenes.deliverOldest(x, 2);
        c.due("and not when it is done", x.collect(1), 1);
    }

    private static void callRefused() {
        c.promise(7, "call refused");
        LeasedReferences x = Scenes.known();
        x.make(1, 1);
        x.pass(0, 0, 2, 0);
        Scenes.deliverOldest(x, 4);
        x.crash(2);
        String before = Look.at(x);
        c.due("root is nothing", x.call(1, 2, 1), -1);
        c.due("root is an object", x.call(1, 1, 1), -1);
        c.due("node -1", x.call(-1, 0, 1), -1);
        c.due("node 4", x.call(4, 0, 1), -1);
        c.due("root -1", x.call(1, -1, 1), -1);
        c.due("root 3", x.call(1, 3, 1), -1);
        c.due("crashed", x.call(2, 0, 1), -1);
        c.isTrue("refusals change nothing", before.equals(Look.at(x)));
        c.due("no number used up", x.call(1, 0, 1), 1);
        before = Look.at(x);
        c.due("it waits", x.call(1, 0, 1), -1);
        c.isTrue("which changes nothing", before.equals(Look.at(x)));
    }

    private static void callStale() {
        c.promise(7, "call for a surrogate that is not GOOD");
        LeasedReferences x = new LeasedReferences();
        x.make(0, 0);
        x.pass(0, 0, 1, 0);
        x.deliver(0);
        String before = Look.at(x);
        c.due("PENDING", x.call(1, 0, 1), -2);
        c.isTrue("changes nothing", before.equals(Look.at(x)));
        Scenes.deliverOldest(x, 3);
        Scenes.quietTicks(x, 23);
        c.due("GOOD to the last", x.call(1, 0, 1), 1);
        x.tick(1);
        c.due("WAITING goes before STALE", x.call(1, 0, 1), -1);
        Scenes.quietTicks(x, 2);
        c.due("it failed", x.outcome(1, 0), FAILED);
        c.due("STALE", x.call(1, 0, 1), -2);
        c.due("the number stays", x.outcome(1, 1), 1);
    }

    private static void callLost() {
        c.promise(7, "call with 32 in flight");
        LeasedReferences x = Scenes.known();
        x.pass(0, 0, 1, 0);
        Scenes.fillFlight(x);
        c.due("answers the number", x.call(1, 0, 9), 1);
        c.due("WAITING", x.outcome(1, 0), WAITING);
        c.due("lost", x.message(31, 0), 0);
        Scenes.loseAll(x);
        x.tick(2);
        c.due("not yet sent again", x.flight(), 0);
        x.tick(1);
        c.due("sent again", x.flight(), 1);
        c.message(x, 0, Kind.CALL, 1, 0, 0, 1, 9);
    }

    private static void callComes() {
        c.promise(8, "CALL comes");
        LeasedReferences x = Scenes.known();
        x.call(1, 0, 5);
        c.due("done", x.deliver(0), 1);
        c.due("value", x.slot(0, 0, 2), 5);
        c.message(x, 0, Kind.ANSWER, 0, 1, 0, 1, 5);
        x.deliver(0);
        x.call(1, 0, -7);
        x.deliver(0);
        c.due("value", x.slot(0, 0, 2), -2);
        c.message(x, 0, Kind.ANSWER, 0, 1, 0, 2, -2);
    }

    private static void callComesAgain() {
        c.promise(8, "CALL comes again");
        LeasedReferences x = Scenes.known();
        x.call(1, 0, 5);
        x.copy(0);
        x.copy(0);
        x.deliver(0);
        x.deliver(2);
        c.due("DONE", x.outcome(1, 0), DONE);
        c.due("the latest: not dropped", x.deliver(0), 1);
        c.due("not added again", x.slot(0, 0, 2), 5);
        c.message(x, 1, Kind.ANSWER, 0, 1, 0, 1, 5);
        x.lose(1);
        x.call(1, 0, 1);
        x.deliver(1);
        c.due("value", x.slot(0, 0, 2), 6);
        c.due("an older one is dropped", x.deliver(0), 0);
        c.due("only the new reply flies", x.flight(), 1);
        c.message(x, 0, Kind.ANSWER, 0, 1, 0, 2, 6);
        c.due("value", x.slot(0, 0, 2), 6);
    }

    private static void callAtAnotherSlot() {
        c.promise(7, "call for a surrogate that is not at slot 0");
        LeasedReferences x = new LeasedReferences();
        x.make(2, 0);
        x.make(1, 0);
        x.make(3, 0);
        x.pass(3, 0, 1, 2);
        Scenes.deliverOldest(x, 4);
        c.due("slot 1", x.root(1, 2), 1);
        c.due("call", x.call(1, 2, 30), 1);
        c.message(x, 0, Kind.CALL, 1, 3, 2, 1, 30);
        x.tick(3);
        c.message(x, 1, Kind.CALL, 1, 3, 2, 1, 30);
        x.drop(1, 0);
        x.drop(1, 2);
        c.due("only slot 1 is kept", x.collect(1), 1);
        c.due("slot 1", x.slot(1, 1, 0), 2);
        x.deliver(0);
        c.message(x, 1, Kind.ANSWER, 3, 1, 2, 1, 30);
        x.deliver(0);
        c.message(x, 1, Kind.ANSWER, 3, 1, 2, 1, 30);
    }

    private static void callComesToFreedObject() {
        c.promise(8, "CALL comes when the object is gone");
        LeasedReferences x = Scenes.known();
        x.drop(0, 0);
        x.call(1, 0, 5);
        x.copy(0);
        x.tick(12);
        x.tick(12);
        c.due("freed", x.collect(0), 1);
        c.due("not dropped", x.deliver(0), 1);
        int last = x.flight() - 1;
        c.message(x, last, Kind.NOOBJECT, 0, 1, 0, 1, 0);
        x.make(0, 0);
        c.due("the kept reply again", x.deliver(0), 1);
        c.message(x, x.flight() - 1, Kind.NOOBJECT, 0, 1, 0, 1, 0);
        c.due("the new object is another", x.slot(0, 0, 2), 0);
    }

    private static void clientsApart() {
        c.promise(8, "the latest call is each client's own, over all objects");
        LeasedReferences x = Scenes.known();
        x.make(0, 1);
        x.pass(0, 1, 1, 1);
        Scenes.deliverOldest(x, 4);
        x.pass(0, 0, 2, 0);
        Scenes.deliverOldest(x, 4);
        x.call(1, 0, 10);
        x.copy(0);
        Scenes.deliverOldest(x, 1);
        x.deliver(1);
        x.call(1, 1, 100);
        x.deliver(1);
        c.due("the other object's value", x.slot(0, 1, 2), 100);
        c.due("the older call is dropped", x.deliver(0), 0);
        x.deliver(0);
        c.due("DONE", x.outcome(1, 2), 100);
        c.due("node 2's first", x.call(2, 0, 1), 1);
        c.due("done", x.deliver(0), 1);
        c.due("value", x.slot(0, 0, 2), 11);
        c.message(x, 0, Kind.ANSWER, 0, 2, 0, 1, 11);
    }

    private static void valueWraps() {
        c.promise(8, "the value wraps");
        LeasedReferences x = Scenes.known();
        x.call(1, 0, Integer.MAX_VALUE);
        Scenes.deliverOldest(x, 2);
        x.call(1, 0, 1);
        Scenes.deliverOldest(x, 2);
        c.due("value", x.slot(0, 0, 2), Integer.MIN_VALUE);
        c.due("RESULT", x.outcome(1, 2), Integer.MIN_VALUE);
    }

    private static void replyComes() {
        c.promise(8, "ANSWER and NOOBJECT come");
        LeasedReferences x = Scenes.known();
        x.call(1, 0, 5);
        x.deliver(0);
        x.copy(0);
        c.due("ANSWER", x.deliver(0), 1);
        c.due("DONE", x.outcome(1, 0), DONE);
        c.due("RESULT", x.outcome(1, 2), 5);
        c.due("again: dropped", x.deliver(0), 0);
        x.call(1, 0, 1);
        x.deliver(0);
        x.copy(0);
        x.deliver(0);
        x.call(1, 0, 2);
        c.due("of an older call: dropped", x.deliver(0), 0);
        c.due("WAITING", x.outcome(1, 0), WAITING);
        c.due("RESULT stays", x.outcome(1, 2), 6);

        x = goneWhileGood();
        c.due("NOOBJECT", x.message(0, 0), Kind.NOOBJECT);
        x.copy(0);
        c.due("not dropped", x.deliver(0), 1);
        c.due("FAILED", x.outcome(1, 0), FAILED);
        c.due("the RESULT of the one before", x.outcome(1, 2), 5);
        c.due("its number", x.outcome(1, 1), 2);
        c.due("again: dropped", x.deliver(0), 0);
    }

    /** A NOOBJECT for node 1's second call flies at place 0, alone; the first was DONE with 5. */
    private static LeasedReferences goneWhileGood() {
        LeasedReferences x = Scenes.known();
        x.call(1, 0, 5);
        Scenes.deliverOldest(x, 2);
        x.drop(0, 0);
        x.tick(12);
        x.tick(11);
        Scenes.loseAll(x);
        x.call(1, 0, 6);
        x.tick(1);
        x.collect(0);
        x.deliver(0);
        return x;
    }

    private static void outcome() {
        c.sentence(20, "0 whether it is 0 NONE, 1 WAITING, 2 DONE or 3 FAILED; 1 its number, 0 when there was none; 2 the RESULT "
                + "of the latest call that was DONE, 0 when there was none.");
        LeasedReferences x = Scenes.known();
        c.due("NONE", x.outcome(1, 0), NONE_YET);
        c.due("no number", x.outcome(1, 1), 0);
        c.due("no RESULT", x.outcome(1, 2), 0);
        x.call(1, 0, 4);
        c.due("WAITING", x.outcome(1, 0), WAITING);
        c.due("number", x.outcome(1, 1), 1);
        c.due("no RESULT yet", x.outcome(1, 2), 0);
        Scenes.deliverOldest(x, 2);
        c.due("DONE", x.outcome(1, 0), DONE);
        c.due("RESULT", x.outcome(1, 2), 4);
        x.call(1, 0, 4);
        c.due("WAITING", x.outcome(1, 0), WAITING);
        c.due("number", x.outcome(1, 1), 2);
        c.due("the RESULT of the one before", x.outcome(1, 2), 4);
        x.crash(1);
        c.due("crashed: WAITING", x.outcome(1, 0), WAITING);
        c.due("crashed: number", x.outcome(1, 1), 2);
        c.due("crashed: RESULT", x.outcome(1, 2), 4);
        c.due("others have their own", x.outcome(0, 1), 0);
        c.due("which -1", x.outcome(1, -1), -1);
        c.due("which 3", x.outcome(1, 3), -1);
        c.due("node -1", x.outcome(-1, 0), -1);
        c.due("node 4", x.outcome(4, 0), -1);
    }
}
