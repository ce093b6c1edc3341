import java.util.Arrays;

/**
 * References between objects of four nodes that do not trust their network: each object's owner
 * lists who refers to it, for a time, and frees what nobody can reach any more.
 */
public final class LeasedReferences {
    public static final int NONE = -1;
    public static final int STALE = -2;

    private static final int NODES = 4;
    private static final int SLOTS = 8;
    private static final int ROOTS = 3;
    private static final int FIELDS = 2;
    private static final int PINS = 6;
    private static final int FLIGHT = 32;
    private static final int LEASE = 24;
    private static final int RENEW_AFTER = 6;
    private static final int RESEND_AFTER = 3;
    private static final int MOST_TICKS = 12;

    private static final int PASS = 0;
    private static final int TAKEN = 1;
    private static final int DIRTY = 2;
    private static final int LISTED = 3;
    private static final int GONE = 4;
    private static final int CLEAN = 5;
    private static final int CALL = 6;
    private static final int ANSWER = 7;
    private static final int NOOBJECT = 8;

    private static final int HOLDS_NOTHING = 0;
    private static final int HOLDS_OBJECT = 1;
    private static final int HOLDS_SURROGATE = 2;

    private static final int STATE_PENDING = 0;
    private static final int STATE_GOOD = 1;
    private static final int STATE_STALE = 2;

    private static final int CALL_NONE = 0;
    private static final int CALL_WAITING = 1;
    private static final int CALL_DONE = 2;
    private static final int CALL_FAILED = 3;

    private int clock;
    private int nextSerial;
    private int nextPass;
    private final Node[] nodes;
    private final Flight inFlight;

    public LeasedReferences() {
        nodes = new Node[NODES];
        for (int n = 0; n < NODES; n++) {
            nodes[n] = new Node(n);
        }
        inFlight = new Flight();
    }

    // ---- what a node's program does ----

    public int make(int node, int root) {
        Node maker = workingNode(node);
        if (maker == null || !isRoot(root)) {
            return NONE;
        }
        int k = maker.leastEmptySlot();
        if (k == NONE) {
            return NONE;
        }
        int serial = nextSerial++;
        maker.slots[k].holdObject(serial);
        maker.roots[root] = k;
        return serial;
    }

    public boolean link(int node, int root, int field, int from) {
        Slot object = objectAt(node, root);
        if (object == null || !isField(field) || (from != NONE && !isRoot(from))) {
            return false;
        }
        object.fields[field] = from == NONE ? NONE : nodes[node].roots[from];
        return true;
    }

    public boolean fetch(int node, int root, int field, int into) {
        Slot object = objectAt(node, root);
        if (object == null || !isField(field) || !isRoot(into)) {
            return false;
        }
        nodes[node].roots[into] = object.fields[field];
        return true;
    }

    public boolean drop(int node, int root) {
        Node dropper = workingNode(node);
        if (dropper == null || !isRoot(root)) {
            return false;
        }
        dropper.roots[root] = NONE;
        return true;
    }

    public int pass(int node, int root, int to, int into) {
        Slot passed = slotAt(node, root);
        if (passed == null || !isNode(to) || to == node || !isRoot(into)) {
            return NONE;
        }
        Pin pin = nodes[node].freePin(clock);
        if (pin == null) {
            return NONE;
        }
        if (passed.holds == HOLDS_SURROGATE && passed.state(clock) != STATE_GOOD) {
            return STALE;
        }
        int id = nextPass++;
        pin.begin(id, nodes[node].roots[root], clock + LEASE);
        int owner = passed.holds == HOLDS_OBJECT ? node : passed.owner;
        inFlight.send(PASS, node, to, passed.serial, id, NODES * into + owner);
        return id;
    }

    public int call(int node, int root, int amount) {
        Slot surrogate = slotAt(node, root);
        if (surrogate == null || surrogate.holds != HOLDS_SURROGATE || nodes[node].call.waits()) {
            return NONE;
        }
        if (surrogate.state(clock) != STATE_GOOD) {
            return STALE;
        }
        Node caller = nodes[node];
        caller.call.begin(caller.roots[root], amount);
        sendCall(caller);
        return caller.call.number;
    }

    // ---- what the network does ----

    public int deliver(int k) {
        if (!inFlight.hasPlace(k)) {
            return NONE;
        }
        Message message = inFlight.takeOut(k);
        Node receiver = nodes[message.receiver];
        return !receiver.crashed && comes(receiver, message) ? 1 : 0;
    }

    public boolean lose(int k) {
        if (!inFlight.hasPlace(k)) {
            return false;
        }
        inFlight.takeOut(k);
        return true;
    }

    public boolean copy(int k) {
        if (!inFlight.hasPlace(k) || inFlight.size == FLIGHT) {
            return false;
        }
        Message m = inFlight.messages[k];
        inFlight.send(m.kind, m.sender, m.receiver, m.serial, m.number, m.extra);
        return true;
    }

    // ---- time, collecting, crashes ----

    public boolean tick(int n) {
        if (n < 1 || n > MOST_TICKS) {
            return false;
        }
        for (int i = 0; i < n; i++) {
            clock++;
            for (int at = 0; at < NODES; at++) {
                if (!nodes[at].crashed) {
                    renewSurrogates(nodes[at]);
                    retryCall(nodes[at]);
                }
            }
        }
        return true;
    }

    public int collect(int node) {
        Node collector = workingNode(node);
        if (collector == null) {
            return NONE;
        }
        collector.markKept(clock);
        int freed = 0;
        for (int k = 0; k < SLOTS; k++) {
            Slot slot = collector.slots[k];
            if (slot.holds != HOLDS_NOTHING && !collector.kept[k]) {
                if (slot.holds == HOLDS_SURROGATE) {
                    inFlight.send(CLEAN, node, slot.owner, slot.serial, collector.nextNumber(), 0);
                }
                slot.holds = HOLDS_NOTHING;
                freed++;
            }
        }
        return freed;
    }

    public boolean crash(int node) {
        Node crashing = workingNode(node);
        if (crashing == null) {
            return false;
        }
        crashing.crashed = true;
        return true;
    }

    // ---- what can be looked at ----

    public int flight() {
        return inFlight.size;
    }

    public int message(int k, int which) {
        return inFlight.hasPlace(k) ? inFlight.messages[k].part(which) : NONE;
    }

    public int root(int node, int root) {
        return isNode(node) && isRoot(root) ? nodes[node].roots[root] : NONE;
    }

    public int slot(int node, int k, int which) {
        return isNode(node) && isSlot(k) ? nodes[node].slots[k].part(which, clock) : NONE;
    }

    public int listing(int node, int k, int client) {
        if (!isNode(node) || !isSlot(k) || !isNode(client) || client == node) {
            return NONE;
        }
        Slot slot = nodes[node].slots[k];
        return slot.holds == HOLDS_OBJECT ? Math.max(0, slot.listedUntil[client] - clock) : NONE;
    }

    public int pins(int node) {
        return isNode(node) ? nodes[node].countPins(clock) : NONE;
    }

    public int outcome(int node, int which) {
        return isNode(node) ? nodes[node].call.part(which) : NONE;
    }

    // ---- what is there ----

    private static boolean isNode(int node) {
        return node >= 0 && node < NODES;
    }

    private static boolean isSlot(int k) {
        return k >= 0 && k < SLOTS;
    }

    private static boolean isRoot(int root) {
        return root >= 0 && root < ROOTS;
    }

    private static boolean isField(int field) {
        return field >= 0 && field < FIELDS;
    }

    /** The node, or null when there is none of that number or it crashed. */
    private Node workingNode(int node) {
        return isNode(node) && !nodes[node].crashed ? nodes[node] : null;
    }

    /** The slot to which a root of a working node refers, or null. */
    private Slot slotAt(int node, int root) {
        Node working = workingNode(node);
        if (working == null || !isRoot(root)) {
            return null;
        }
        int k = working.roots[root];
        return isSlot(k) ? working.slots[k] : null;
    }

    private Slot objectAt(int node, int root) {
        Slot slot = slotAt(node, root);
        return slot != null && slot.holds == HOLDS_OBJECT ? slot : null;
    }

    // ---- messages that come: each answers whether the message was not dropped ----

    private boolean comes(Node node, Message message) {
        switch (message.kind) {
            case PASS:
                return passComes(node, message);
            case TAKEN:
                return takenComes(node, message);
            case DIRTY:
                return dirtyComes(node, message);
            case LISTED:
            case GONE:
                return verdictComes(node, message);
            case CLEAN:
                return cleanComes(node, message);
            case CALL:
                return callComes(node, message);
            case ANSWER:
            case NOOBJECT:
                return replyComes(node, message);
            default:
                return false;
        }
    }

    private boolean passComes(Node node, Message pass) {
        int owner = pass.extra % NODES;
        int root = pass.extra / NODES;
        int k = node.slotOf(pass.serial);
        boolean isNew = k == NONE;
        if (isNew) {
            k = owner == node.number ? NONE : node.leastEmptySlot();
            if (k == NONE) {
                return false;
            }
            node.slots[k].holdSurrogate(pass.serial, owner);
        }
        Slot slot = node.slots[k];
        if (isNew || slot.isSurrogateIn(STATE_STALE, clock)) {
            becomePending(node, slot, pass);
        } else if (slot.isSurrogateIn(STATE_PENDING, clock)) {
            slot.owe(pass);
        } else {
            inFlight.send(TAKEN, node.number, pass.sender, pass.serial, pass.number, 0);
        }
        node.roots[root] = k;
        return true;
    }

    private boolean takenComes(Node node, Message taken) {
        for (int i = 0; i < PINS; i++) {
            Pin pin = node.pins[i];
            if (pin.id == taken.number && pin.lasts(clock)) {
                pin.until = clock;
                return true;
            }
        }
        return false;
    }

    private boolean dirtyComes(Node node, Message dirty) {
        int k = node.slotOf(dirty.serial);
        int client = dirty.sender;
        if (k == NONE) {
            sendVerdict(GONE, dirty);
            return true;
        }
        Slot object = node.slots[k];
        if (dirty.number > object.last[client]) {
            object.last[client] = dirty.number;
            object.listedUntil[client] = clock + LEASE;
        } else if (clock >= object.listedUntil[client]) {
            return false;
        }
        sendVerdict(LISTED, dirty);
        return true;
    }

    /** LISTED and GONE are what the owner says to a DIRTY. */
    private boolean verdictComes(Node node, Message verdict) {
        int k = node.slotOf(verdict.serial);
        if (k == NONE) {
            return false;
        }
        Slot surrogate = node.slots[k];
        if (surrogate.holds != HOLDS_SURROGATE || surrogate.state(clock) == STATE_STALE
                || verdict.number < surrogate.first) {
            return false;
        }
        if (verdict.kind == GONE) {
            surrogate.expiry = clock;
            return true;
        }
        surrogate.expiry = Math.max(surrogate.expiry, verdict.extra + LEASE);
        if (!surrogate.good) {
            surrogate.good = true;
            inFlight.send(TAKEN, node.number, surrogate.owedSender, surrogate.serial, surrogate.owedId, 0);
        }
        return true;
    }

    private boolean cleanComes(Node node, Message clean) {
        int k = node.slotOf(clean.serial);
        if (k == NONE || clean.number <= node.slots[k].last[clean.sender]) {
            return false;
        }
        node.slots[k].last[clean.sender] = clean.number;
        node.slots[k].listedUntil[clean.sender] = clock;
        return true;
    }

    private boolean callComes(Node node, Message call) {
        Reply reply = node.replies[call.sender];
        if (call.number < reply.number) {
            return false;
        }
        if (call.number > reply.number) {
            int k = node.slotOf(call.serial);
            if (k == NONE) {
                reply.keep(NOOBJECT, call, 0);
            } else {
                node.slots[k].value += call.extra;
                reply.keep(ANSWER, call, node.slots[k].value);
            }
        }
        inFlight.send(reply.kind, node.number, call.sender, reply.serial, reply.number, reply.extra);
        return true;
    }

    private boolean replyComes(Node node, Message reply) {
        if (!node.call.waits() || node.call.number != reply.number) {
            return false;
        }
        if (reply.kind == ANSWER) {
            node.call.state = CALL_DONE;
            node.call.result = reply.extra;
        } else {
            node.call.state = CALL_FAILED;
        }
        return true;
    }

    // ---- sending ----

    private void becomePending(Node node, Slot surrogate, Message pass) {
        surrogate.good = false;
        surrogate.expiry = clock + LEASE;
        surrogate.first = sendDirty(node, surrogate);
        surrogate.owe(pass);
    }

    /** Answers the DIRTY's number. */
    private int sendDirty(Node node, Slot surrogate) {
        int number = node.nextNumber();
        surrogate.sent = clock;
        inFlight.send(DIRTY, node.number, surrogate.owner, surrogate.serial, number, clock);
        return number;
    }

    private void sendVerdict(int kind, Message dirty) {
        inFlight.send(kind, dirty.receiver, dirty.sender, dirty.serial, dirty.number, dirty.extra);
    }

    private void sendCall(Node node) {
        Call call = node.call;
        Slot surrogate = node.slots[call.slot];
        call.sent = clock;
        inFlight.send(CALL, node.number, surrogate.owner, surrogate.serial, call.number, call.amount);
    }

    private void renewSurrogates(Node node) {
        for (int k = 0; k < SLOTS; k++) {
            Slot slot = node.slots[k];
            if (slot.holds == HOLDS_SURROGATE && slot.state(clock) != STATE_STALE
                    && clock - slot.sent >= RENEW_AFTER) {
                sendDirty(node, slot);
            }
        }
    }

    private void retryCall(Node node) {
        Call call = node.call;
        if (!call.waits() || clock - call.sent < RESEND_AFTER) {
            return;
        }
        if (node.slots[call.slot].state(clock) == STATE_STALE) {
            call.state = CALL_FAILED;
        } else {
            sendCall(node);
        }
    }

    private static final class Node {
        final int number;
        boolean crashed;
        int numbersUsed;
        final int[] roots;
        final Slot[] slots;
        final Pin[] pins;
        final Call call;
        /** For each other node, the reply to the latest call from it that was done. */
        final Reply[] replies;
        /** What the last collecting marked; a row that each collecting fills anew. */
        final boolean[] kept;

        Node(int number) {
            this.number = number;
            roots = new int[ROOTS];
            Arrays.fill(roots, NONE);
            slots = new Slot[SLOTS];
            for (int k = 0; k < SLOTS; k++) {
                slots[k] = new Slot();
            }
            pins = new Pin[PINS];
            for (int i = 0; i < PINS; i++) {
                pins[i] = new Pin();
            }
            call = new Call();
            replies = new Reply[NODES];
            for (int n = 0; n < NODES; n++) {
                replies[n] = new Reply();
            }
            kept = new boolean[SLOTS];
        }

        /** The next number of its DIRTYs and CLEANs, used up also if what bears it is lost. */
        int nextNumber() {
            numbersUsed++;
            return numbersUsed;
        }

        int leastEmptySlot() {
            for (int k = 0; k < SLOTS; k++) {
                if (slots[k].holds == HOLDS_NOTHING) {
                    return k;
                }
            }
            return NONE;
        }

        /** The slot with the object of that serial, or with the surrogate for it. */
        int slotOf(int serial) {
            for (int k = 0; k < SLOTS; k++) {
                if (slots[k].holds != HOLDS_NOTHING && slots[k].serial == serial) {
                    return k;
                }
            }
            return NONE;
        }

        Pin freePin(int clock) {
            for (int i = 0; i < PINS; i++) {
                if (!pins[i].lasts(clock)) {
                    return pins[i];
                }
            }
            return null;
        }

        int countPins(int clock) {
            int count = 0;
            for (int i = 0; i < PINS; i++) {
                if (pins[i].lasts(clock)) {
                    count++;
                }
            }
            return count;
        }

        void markKept(int clock) {
            for (int k = 0; k < SLOTS; k++) {
                kept[k] = slots[k].isListed(clock);
            }
            for (int r = 0; r < ROOTS; r++) {
                keep(roots[r]);
            }
            for (int i = 0; i < PINS; i++) {
                if (pins[i].lasts(clock)) {
                    keep(pins[i].slot);
                }
            }
            if (call.waits()) {
                keep(call.slot);
            }
            // A chain of fields meets each slot once at the most, so this many rounds reach its end.
            for (int round = 0; round < SLOTS; round++) {
                keepFieldsOfKept();
            }
        }

        private void keepFieldsOfKept() {
            for (int k = 0; k < SLOTS; k++) {
                if (kept[k] && slots[k].holds == HOLDS_OBJECT) {
                    for (int f = 0; f < FIELDS; f++) {
                        keep(slots[k].fields[f]);
                    }
                }
            }
        }

        private void keep(int k) {
            if (isSlot(k)) {
                kept[k] = true;
            }
        }
    }

    /** Nothing, an object of the node, or a surrogate; made once and filled again and again. */
    private static final class Slot {
        int holds = HOLDS_NOTHING;
        int serial;

        // of an object; last and listedUntil by the client's number
        int value;
        final int[] fields = new int[FIELDS];
        final int[] last = new int[NODES];
        final int[] listedUntil = new int[NODES];

        // of a surrogate; what it owes counts only while it is PENDING
        int owner;
        int first;
        int sent;
        int expiry;
        boolean good;
        int owedSender;
        int owedId;

        void holdObject(int newSerial) {
            holds = HOLDS_OBJECT;
            serial = newSerial;
            value = 0;
            Arrays.fill(fields, NONE);
            Arrays.fill(last, 0);
            Arrays.fill(listedUntil, 0);
        }

        /** The caller makes it PENDING, which sets the rest. */
        void holdSurrogate(int ofSerial, int ofOwner) {
            holds = HOLDS_SURROGATE;
            serial = ofSerial;
            owner = ofOwner;
        }

        void owe(Message pass) {
            owedSender = pass.sender;
            owedId = pass.number;
        }

        /** The state of a surrogate. */
        int state(int clock) {
            if (clock >= expiry) {
                return STATE_STALE;
            }
            return good ? STATE_GOOD : STATE_PENDING;
        }

        boolean isSurrogateIn(int state, int clock) {
            return holds == HOLDS_SURROGATE && state(clock) == state;
        }

        boolean isListed(int clock) {
            if (holds != HOLDS_OBJECT) {
                return false;
            }
            for (int n = 0; n < NODES; n++) {
                if (clock < listedUntil[n]) {
                    return true;
                }
            }
            return false;
        }

        int part(int which, int clock) {
            if (which == 0) {
                return holds;
            }
            if (holds == HOLDS_NOTHING) {
                return NONE;
            }
            boolean isObject = holds == HOLDS_OBJECT;
            switch (which) {
                case 1:
                    return serial;
                case 2:
                    return isObject ? value : state(clock);
                case 3:
                    return isObject ? fields[0] : expiry;
                case 4:
                    return isObject ? fields[1] : owner;
                default:
                    return NONE;
            }
        }
    }

    /** Keeps a slot until TAKEN comes or its time is over; a pin that ended is used again. */
    private static final class Pin {
        int id;
        int slot;
        int until;

        void begin(int newId, int ofSlot, int newUntil) {
            id = newId;
            slot = ofSlot;
            until = newUntil;
        }

        boolean lasts(int clock) {
            return clock < until;
        }
    }

    /** A node's own call; collecting keeps its slot only while it waits. */
    private static final class Call {
        int state = CALL_NONE;
        int number;
        int slot;
        int amount;
        int sent;
        int result;

        void begin(int ofSlot, int newAmount) {
            state = CALL_WAITING;
            number++;
            slot = ofSlot;
            amount = newAmount;
        }

        boolean waits() {
            return state == CALL_WAITING;
        }

        int part(int which) {
            switch (which) {
                case 0:
                    return state;
                case 1:
                    return number;
                case 2:
                    return result;
                default:
                    return NONE;
            }
        }
    }

    /** What was replied to the latest call from one node, to be sent again if that call comes again. */
    private static final class Reply {
        int kind;
        int serial;
        int number;
        int extra;

        void keep(int newKind, Message call, int newExtra) {
            kind = newKind;
            serial = call.serial;
            number = call.number;
            extra = newExtra;
        }
    }

    private static final class Message {
        int kind;
        int sender;
        int receiver;
        int serial;
        int number;
        int extra;

        int part(int which) {
            switch (which) {
                case 0:
                    return kind;
                case 1:
                    return sender;
                case 2:
                    return receiver;
                case 3:
                    return serial;
                case 4:
                    return number;
                case 5:
                    return extra;
                default:
                    return NONE;
            }
        }
    }

    private static final class Flight {
        int size;
        /** One more than can fly: the last is where the message taken out stays readable. */
        final Message[] messages;

        Flight() {
            messages = new Message[FLIGHT + 1];
            for (int i = 0; i <= FLIGHT; i++) {
                messages[i] = new Message();
            }
        }

        boolean hasPlace(int k) {
            return k >= 0 && k < size;
        }

        void send(int kind, int sender, int receiver, int serial, int number, int extra) {
            if (size == FLIGHT) {
                return;
            }
            Message message = messages[size];
            message.kind = kind;
            message.sender = sender;
            message.receiver = receiver;
            message.serial = serial;
            message.number = number;
            message.extra = extra;
            size++;
        }

        /** What it answers is good until the next taking out: it is not made anew but moved behind. */
        Message takeOut(int k) {
            Message taken = messages[k];
            for (int i = k; i < FLIGHT; i++) {
                messages[i] = messages[i + 1];
            }
            messages[FLIGHT] = taken;
            size--;
            return taken;
        }
    }
}
