import java.util.ArrayList;
import java.util.Arrays;
import java.util.HashMap;
import java.util.HashSet;
import java.util.List;
import java.util.Map;
import java.util.Set;

/**
 * The document once more, with lists and maps that grow and nothing used again: slow, but apart from
 * the program in how it holds its state, so that a slip in the one is not a slip in the other.
 */
final class Model {
    /** An object or a surrogate; which one says its class. */
    private abstract static class Thing {
        final int serial;
        final int owner;

        Thing(int serial, int owner) {
            this.serial = serial;
            this.owner = owner;
        }
    }

    private static final class Obj extends Thing {
        int value;
        final Thing[] fields = new Thing[2];
        final Map<Integer, Integer> last = new HashMap<>();
        final Map<Integer, Integer> listing = new HashMap<>();

        Obj(int serial, int owner) {
            super(serial, owner);
        }
    }

    private static final class Surrogate extends Thing {
        int first;
        int sent;
        int expiry;
        int[] owes;

        Surrogate(int serial, int owner) {
            super(serial, owner);
        }
    }

    private record Pin(int id, Thing thing, int made) {
    }

    private static final class Peer {
        boolean crashed;
        int numbers;
        final Thing[] slots = new Thing[8];
        final Thing[] roots = new Thing[3];
        final List<Pin> pins = new ArrayList<>();
        final Map<Integer, int[]> replies = new HashMap<>();
        int callState;
        int callNumber;
        int callAmount;
        int callSent;
        int callResult;
        Surrogate callFor;
    }

    private final Peer[] peers = {new Peer(), new Peer(), new Peer(), new Peer()};
    private final List<int[]> flight = new ArrayList<>();
    private int clock;
    private int serials;
    private int passes;

    // ---- helpers ----

    private static boolean within(int i, int bound) {
        return 0 <= i && i < bound;
    }

    private boolean works(int node) {
        return within(node, 4) && !peers[node].crashed;
    }

    private void send(int... message) {
        if (flight.size() < 32) {
            flight.add(message);
        }
    }

    private boolean stale(Surrogate s) {
        return s.expiry <= clock;
    }

    private boolean good(Surrogate s) {
        return !stale(s) && s.owes == null;
    }

    private boolean lasts(Obj o, int client) {
        return o.listing.containsKey(client) && clock < o.listing.get(client);
    }

    private List<Pin> livePins(int node) {
        return peers[node].pins.stream().filter(p -> clock < p.made + 24).toList();
    }

    private Thing thing(int node, int serial) {
        return Arrays.stream(peers[node].slots).filter(t -> t != null && t.serial == serial).findFirst().orElse(null);
    }

    private int place(int node, Thing thing) {
        return thing == null ? -1 : Arrays.asList(peers[node].slots).indexOf(thing);
    }

    private boolean settle(int node, Thing thing) {
        int k = Arrays.asList(peers[node].slots).indexOf(null);
        if (k >= 0) {
            peers[node].slots[k] = thing;
        }
        return k >= 0;
    }

    private int dirty(int node, Surrogate s) {
        int number = ++peers[node].numbers;
        s.sent = clock;
        send(2, node, s.owner, s.serial, number, clock);
        return number;
    }

    // ---- the calls ----

    int make(int node, int root) {
        if (!works(node) || !within(root, 3)) {
            return -1;
        }
        Obj o = new Obj(serials, node);
        if (!settle(node, o)) {
            return -1;
        }
        peers[node].roots[root] = o;
        return serials++;
    }

    boolean link(int node, int root, int field, int from) {
        if (!works(node) || !within(root, 3) || !within(field, 2) || !within(from + 1, 4)
                || !(peers[node].roots[root] instanceof Obj o)) {
            return false;
        }
        o.fields[field] = from == -1 ? null : peers[node].roots[from];
        return true;
    }

    boolean fetch(int node, int root, int field, int into) {
        if (!works(node) || !within(root, 3) || !within(field, 2) || !within(into, 3)
                || !(peers[node].roots[root] instanceof Obj o)) {
            return false;
        }
        peers[node].roots[into] = o.fields[field];
        return true;
    }

    boolean drop(int node, int root) {
        if (!works(node) || !within(root, 3)) {
            return false;
        }
        peers[node].roots[root] = null;
        return true;
    }

    int pass(int node, int root, int to, int into) {
        if (!works(node) || !within(root, 3) || !within(to, 4) || !within(into, 3) || to == node
                || peers[node].roots[root] == null || livePins(node).size() >= 6) {
            return -1;
        }
        Thing t = peers[node].roots[root];
        if (t instanceof Surrogate s && !good(s)) {
            return -2;
        }
        peers[node].pins.add(new Pin(passes, t, clock));
        send(0, node, to, t.serial, passes, 4 * into + t.owner);
        return passes++;
    }

    int call(int node, int root, int amount) {
        if (!works(node) || !within(root, 3) || peers[node].callState == 1
                || !(peers[node].roots[root] instanceof Surrogate s)) {
            return -1;
        }
        if (!good(s)) {
            return -2;
        }
        Peer p = peers[node];
        p.callState = 1;
        p.callNumber++;
        p.callAmount = amount;
        p.callFor = s;
        p.callSent = clock;
        send(6, node, s.owner, s.serial, p.callNumber, amount);
        return p.callNumber;
    }

    int deliver(int k) {
        if (!within(k, flight.size())) {
            return -1;
        }
        int[] m = flight.remove(k);
        int node = m[2];
        if (peers[node].crashed) {
            return 0;
        }
        boolean taken = switch (m[0]) {
            case 0 -> passComes(node, m);
            case 1 -> {
                List<Pin> live = livePins(node);
                yield peers[node].pins.removeIf(p -> p.id == m[4] && live.contains(p));
            }
            case 2 -> dirtyComes(node, m);
            case 3, 4 -> verdictComes(node, m);
            case 5 -> cleanComes(node, m);
            case 6 -> callComes(node, m);
            default -> replyComes(node, m);
        };
        return taken ? 1 : 0;
    }

    private boolean passComes(int node, int[] m) {
        int root = m[5] >> 2;
        int owner = m[5] & 3;
        Thing t = thing(node, m[3]);
        int[] owed = {m[1], m[4]};
        if (t instanceof Obj || t instanceof Surrogate g && good(g)) {
            send(1, node, m[1], m[3], m[4], 0);
        } else if (t instanceof Surrogate s && !stale(s)) {
            s.owes = owed;
        } else {
            Surrogate s = t instanceof Surrogate old ? old : new Surrogate(m[3], owner);
            if (t == null && (owner == node || !settle(node, s))) {
                return false;
            }
            s.expiry = clock + 24;
            s.first = dirty(node, s);
            s.owes = owed;
            t = s;
        }
        peers[node].roots[root] = t;
        return true;
    }

    private boolean dirtyComes(int node, int[] m) {
        int from = m[1];
        if (!(thing(node, m[3]) instanceof Obj o)) {
            send(4, node, from, m[3], m[4], m[5]);
            return true;
        }
        if (m[4] > o.last.getOrDefault(from, 0)) {
            o.last.put(from, m[4]);
            o.listing.put(from, clock + 24);
        }
        if (!lasts(o, from)) {
            return false;
        }
        send(3, node, from, m[3], m[4], m[5]);
        return true;
    }

    private boolean verdictComes(int node, int[] m) {
        if (!(thing(node, m[3]) instanceof Surrogate s) || stale(s) || m[4] < s.first) {
            return false;
        }
        if (m[0] == 4) {
            s.expiry = clock;
            return true;
        }
        if (m[5] + 24 > s.expiry) {
            s.expiry = m[5] + 24;
        }
        if (s.owes != null) {
            send(1, node, s.owes[0], m[3], s.owes[1], 0);
            s.owes = null;
        }
        return true;
    }

    private boolean cleanComes(int node, int[] m) {
        if (!(thing(node, m[3]) instanceof Obj o) || m[4] <= o.last.getOrDefault(m[1], 0)) {
            return false;
        }
        o.last.put(m[1], m[4]);
        o.listing.remove(m[1]);
        return true;
    }

    private boolean callComes(int node, int[] m) {
        int[] latest = peers[node].replies.get(m[1]);
        int done = latest == null ? 0 : latest[4];
        if (m[4] < done) {
            return false;
        }
        if (m[4] > done) {
            if (thing(node, m[3]) instanceof Obj o) {
                o.value += m[5];
                latest = new int[] {7, node, m[1], m[3], m[4], o.value};
            } else {
                latest = new int[] {8, node, m[1], m[3], m[4], 0};
            }
            peers[node].replies.put(m[1], latest);
        }
        send(latest.clone());
        return true;
    }

    private boolean replyComes(int node, int[] m) {
        Peer p = peers[node];
        if (p.callState != 1 || p.callNumber != m[4]) {
            return false;
        }
        p.callState = m[0] == 7 ? 2 : 3;
        p.callResult = m[0] == 7 ? m[5] : p.callResult;
        return true;
    }

    boolean lose(int k) {
        return within(k, flight.size()) && flight.remove(k) != null;
    }

    boolean copy(int k) {
        return within(k, flight.size()) && flight.size() < 32 && flight.add(flight.get(k).clone());
    }

    boolean tick(int n) {
        if (n < 1 || n > 12) {
            return false;
        }
        for (int i = 0; i < n; i++) {
            clock++;
            for (int node = 0; node < 4; node++) {
                if (!peers[node].crashed) {
                    tickAt(node);
                }
            }
        }
        return true;
    }

    private void tickAt(int node) {
        Peer p = peers[node];
        for (Thing t : p.slots) {
            if (t instanceof Surrogate s && !stale(s) && s.sent + 6 <= clock) {
                dirty(node, s);
            }
        }
        if (p.callState == 1 && p.callSent + 3 <= clock) {
            if (stale(p.callFor)) {
                p.callState = 3;
            } else {
                p.callSent = clock;
                send(6, node, p.callFor.owner, p.callFor.serial, p.callNumber, p.callAmount);
            }
        }
    }

    int collect(int node) {
        if (!works(node)) {
            return -1;
        }
        Peer p = peers[node];
        Set<Thing> kept = new HashSet<>();
        for (Thing t : p.roots) {
            reach(t, kept);
        }
        for (Pin pin : livePins(node)) {
            reach(pin.thing, kept);
        }
        if (p.callState == 1) {
            reach(p.callFor, kept);
        }
        for (Thing t : p.slots) {
            if (t instanceof Obj o && (lasts(o, 0) || lasts(o, 1) || lasts(o, 2) || lasts(o, 3))) {
                reach(o, kept);
            }
        }
        int freed = 0;
        for (int k = 0; k < 8; k++) {
            Thing t = p.slots[k];
            if (t != null && !kept.contains(t)) {
                p.slots[k] = null;
                freed++;
                if (t instanceof Surrogate) {
                    send(5, node, t.owner, t.serial, ++p.numbers, 0);
                }
            }
        }
        return freed;
    }

    private void reach(Thing t, Set<Thing> kept) {
        if (t != null && kept.add(t) && t instanceof Obj o) {
            reach(o.fields[0], kept);
            reach(o.fields[1], kept);
        }
    }

    boolean crash(int node) {
        if (!works(node)) {
            return false;
        }
        peers[node].crashed = true;
        return true;
    }

    int flight() {
        return flight.size();
    }

    int message(int k, int which) {
        return within(k, flight.size()) && within(which, 6) ? flight.get(k)[which] : -1;
    }

    int root(int node, int root) {
        return within(node, 4) && within(root, 3) ? place(node, peers[node].roots[root]) : -1;
    }

    int slot(int node, int k, int which) {
        if (!within(node, 4) || !within(k, 8) || !within(which, 5)) {
            return -1;
        }
        Thing t = peers[node].slots[k];
        if (t instanceof Obj o) {
            return new int[] {1, o.serial, o.value, place(node, o.fields[0]), place(node, o.fields[1])}[which];
        }
        if (t instanceof Surrogate s) {
            return new int[] {2, s.serial, stale(s) ? 2 : good(s) ? 1 : 0, s.expiry, s.owner}[which];
        }
        return which == 0 ? 0 : -1;
    }

    int listing(int node, int k, int client) {
        if (!within(node, 4) || !within(k, 8) || !within(client, 4) || client == node
                || !(peers[node].slots[k] instanceof Obj o)) {
            return -1;
        }
        return lasts(o, client) ? o.listing.get(client) - clock : 0;
    }

    int pins(int node) {
        return within(node, 4) ? livePins(node).size() : -1;
    }

    int outcome(int node, int which) {
        if (!within(node, 4) || !within(which, 3)) {
            return -1;
        }
        Peer p = peers[node];
        return new int[] {p.callState, p.callNumber, p.callResult}[which];
    }
}
