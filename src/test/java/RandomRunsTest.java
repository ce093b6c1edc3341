import java.util.Random;

/**
 * Runs of 512 calls, all that an object is good for, the same on the program and on {@link Model}: every answer
 * must agree. What is seen of the state is asked for within the run, so looks at random places are part of it.
 * Seeds are fixed, so a run can be had again.
 */
public final class RandomRunsTest {
    private static final int RUNS = 3000;
    private static final int CALLS = 512;
    private static final Checks c = new Checks();

    private final Random random;
    private final LeasedReferences program = new LeasedReferences();
    private final Model model = new Model();
    /** How lively each run is differs: some lose much, some tick much, some have wrong arguments often. */
    private final int wrongIn;
    private final int lookShare;
    private final int tickWeight;
    private final int deliverWeight;
    private final int crashWeight;
    private String call = "";
    private int answered;

    private RandomRunsTest(int seed) {
        random = new Random(seed);
        wrongIn = 10 + random.nextInt(200);
        lookShare = 20 + random.nextInt(50);
        tickWeight = 2 + random.nextInt(12);
        deliverWeight = 20 + random.nextInt(80);
        crashWeight = random.nextInt(4) == 0 ? 1 : 0;
    }

    public static void main(String[] args) {
        c.promise(8, "random runs, and with it all other promises");
        for (int seed = 0; seed < RUNS; seed++) {
            new RandomRunsTest(seed).run(seed);
        }
        c.end();
    }

    /** Stops at the first answer that is not due: what comes after it tells no more. */
    private void run(int seed) {
        for (int i = 0; i < CALLS; i++) {
            int want = random.nextInt(100) < lookShare ? look() : step();
            c.due("seed " + seed + " call " + i + ": " + call, answered, want);
            if (answered != want) {
                return;
            }
        }
    }

    private int pick(int bound) {
        if (random.nextInt(wrongIn) == 0) {
            int[] odd = {-1, -2, bound, bound + 1, Integer.MIN_VALUE, Integer.MAX_VALUE};
            return odd[random.nextInt(odd.length)];
        }
        return random.nextInt(bound);
    }

    private int place() {
        int size = Math.max(1, model.flight());
        return random.nextBoolean() ? Math.min(pick(size), pick(3)) : pick(size);
    }

    /** Does one call on both, keeps the program's answer, and answers the model's. */
    private int step() {
        int dice = random.nextInt(90 + tickWeight + deliverWeight + crashWeight);
        int node = pick(4);
        int root = pick(3);
        if (dice < 6) {
            return both("make " + node + " " + root, program.make(node, root), model.make(node, root));
        } else if (dice < 14) {
            int field = pick(2);
            int from = random.nextInt(5) == 0 ? -1 : pick(3);
            return both("link " + node + " " + root + " " + field + " " + from,
                    bit(program.link(node, root, field, from)), bit(model.link(node, root, field, from)));
        } else if (dice < 20) {
            int field = pick(2);
            int into = pick(3);
            return both("fetch " + node + " " + root + " " + field + " " + into,
                    bit(program.fetch(node, root, field, into)), bit(model.fetch(node, root, field, into)));
        } else if (dice < 28) {
            return both("drop " + node + " " + root, bit(program.drop(node, root)), bit(model.drop(node, root)));
        } else if (dice < 45) {
            int to = pick(4);
            int into = pick(3);
            return both("pass " + node + " " + root + " " + to + " " + into,
                    program.pass(node, root, to, into), model.pass(node, root, to, into));
        } else if (dice < 62) {
            int amount = random.nextInt();
            return both("call " + node + " " + root + " " + amount,
                    program.call(node, root, amount), model.call(node, root, amount));
        } else if (dice < 72) {
            return both("collect " + node, program.collect(node), model.collect(node));
        } else if (dice < 90) {
            return networkFault();
        } else if (dice < 90 + tickWeight) {
            int n = 1 + pick(random.nextInt(4) == 0 ? 12 : 3);
            return both("tick " + n, bit(program.tick(n)), bit(model.tick(n)));
        } else if (dice < 90 + tickWeight + deliverWeight) {
            int k = place();
            return both("deliver " + k, program.deliver(k), model.deliver(k));
        }
        boolean rather = random.nextInt(8) == 0;
        int victim = rather ? node : -1;
        return both("crash " + victim, bit(program.crash(victim)), bit(model.crash(victim)));
    }

    private int networkFault() {
        int k = place();
        if (random.nextInt(3) == 0) {
            return both("lose " + k, bit(program.lose(k)), bit(model.lose(k)));
        }
        return both("copy " + k, bit(program.copy(k)), bit(model.copy(k)));
    }

    private int both(String name, int programs, int models) {
        call = name;
        answered = programs;
        return models;
    }

    private static int bit(boolean answer) {
        return answer ? 1 : 0;
    }

    private int look() {
        int node = pick(4);
        int k = pick(8);
        switch (random.nextInt(9)) {
            case 0:
                return both("flight", program.flight(), model.flight());
            case 1:
                return both("pins " + node, program.pins(node), model.pins(node));
            case 2:
                int part = pick(3);
                return both("outcome " + node + " " + part, program.outcome(node, part), model.outcome(node, part));
            case 3:
                int root = pick(3);
                return both("root " + node + " " + root, program.root(node, root), model.root(node, root));
            case 4:
                int client = pick(4);
                return both("listing " + node + " " + k + " " + client,
                        program.listing(node, k, client), model.listing(node, k, client));
            case 5:
            case 6:
                int which = pick(5);
                return both("slot " + node + " " + k + " " + which,
                        program.slot(node, k, which), model.slot(node, k, which));
            default:
                int place = place();
                int of = pick(6);
                return both("message " + place + " " + of, program.message(place, of), model.message(place, of));
        }
    }
}
