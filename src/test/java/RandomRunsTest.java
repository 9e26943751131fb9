import java.util.Random;

/** All promises: long mixed runs, each answer compared with the plain model's. */
public final class RandomRunsTest {
    private static final int RUNS = 3000;
    /** An object's answers are promised for so many calls. */
    private static final int CALLS = 512;
    private static final int MOST_CALLS_A_STEP = 8;
    private static final Check CHECK = new Check();

    private final int seed;
    private final Random random;
    private final int n;
    private final int corrupt;
    private final int turns;
    private final int wildness;
    private final ThreeChainLedger x;
    private final PlainModel y;
    private int calls;

    private RandomRunsTest(int seed) {
        this.seed = seed;
        random = new Random(seed);
        int faults = random.nextInt(4);
        n = faults == 2 ? 7 : 4;
        corrupt = random.nextInt(4) == 0 ? 0 : random.nextInt(1 << n + 2);
        turns = 3 + random.nextInt(8);
        wildness = random.nextInt(3);
        x = new ThreeChainLedger(faults, corrupt, turns);
        y = new PlainModel(faults, corrupt, turns);
    }

    public static void main(String[] args) {
        for (int seed = 0; seed < RUNS; seed++) {
            RandomRunsTest run = new RandomRunsTest(seed);
            while (run.calls < CALLS - MOST_CALLS_A_STEP) {
                run.step();
            }
        }
        CHECK.end();
    }

    private void due(String call, int got, int want) {
        calls++;
        CHECK.due("seed " + seed + ", call " + calls + ", " + call, got, want);
    }

    private void due(String call, boolean got, boolean want) {
        due(call, got ? 1 : 0, want ? 1 : 0);
    }

    /** Mostly a replica that is there; sometimes one that is not. */
    private int replica() {
        return random.nextInt(25) == 0 ? odd() : random.nextInt(n);
    }

    private int odd() {
        int[] odd = {-1, 4, 7, 24, 40, 41, 1001, 10000, Integer.MIN_VALUE, Integer.MAX_VALUE};
        return odd[random.nextInt(odd.length)];
    }

    private int place() {
        return random.nextInt(25) == 0 ? odd() : random.nextInt(y.waiting() + 1);
    }

    private int blockCount() {
        int count = 0;
        while (y.block(count) != -1) {
            count++;
        }
        return count;
    }

    /** Mostly one of the last blocks, as those are the ones that go on. */
    private int someBlock() {
        if (random.nextInt(25) == 0) {
            return odd();
        }
        int count = blockCount();
        return random.nextBoolean() ? random.nextInt(count + 1) : count - 1 - random.nextInt(Math.min(4, count));
    }

    private int liar() {
        for (int tries = 0; tries < 8; tries++) {
            int r = random.nextInt(n);
            if (y.state(r, 0) == -1) {
                return r;
            }
        }
        return replica();
    }

    private void step() {
        int dice = random.nextInt(100);
        if (dice < 40) {
            ask();
        } else if (dice < 75 - 10 * wildness) {
            goOn();
        } else if (dice < 80) {
            lie();
        } else {
            disturb();
        }
    }

    private void goOn() {
        int dice = random.nextInt(10);
        if (dice < 4) {
            for (int r = 0; r < n; r++) {
                if (y.state(r, 0) > 0 && (y.state(r, 0) - 1) / Math.min(9, Math.max(4, turns)) % n == r) {
                    due("lead(" + r + ")", x.lead(r), y.lead(r));
                }
            }
        } else if (dice < 8) {
            int m = random.nextInt(30) == 0 ? odd() : random.nextInt(2) == 0 ? 40 : random.nextInt(41);
            due("flow(" + m + ")", x.flow(m), y.flow(m));
        } else {
            int holders = random.nextInt(25) == 0 ? odd() : random.nextInt(1 << n);
            int from = random.nextInt(5);
            int to = random.nextInt(5);
            int amount = random.nextInt(25) == 0 ? odd() : random.nextInt(130);
            String call = "submit(" + holders + ", " + from + ", " + to + ", " + amount + ")";
            due(call, x.submit(holders, from, to, amount), y.submit(holders, from, to, amount));
        }
    }

    private void lie() {
        int s = liar();
        int b = someBlock();
        int r = replica();
        int view = random.nextInt(40) == 0 ? odd() : Math.max(0, y.block(b)) / 64 + random.nextInt(4);
        int dice = random.nextInt(10);
        if (dice < 3) {
            int t = 0;
            while (y.outcome(0, t) + y.outcome(1, t) + y.outcome(2, t) > -3) {
                t++;
            }
            int set = random.nextInt(25) == 0 ? odd() : random.nextInt(1 << t) & random.nextInt();
            String call = "forge(" + b + ", " + view + ", " + set + ")";
            due(call, x.forge(b, view, set), y.forge(b, view, set));
        } else if (dice < 7) {
            due("offer(" + b + ", " + r + ")", x.offer(b, r), y.offer(b, r));
            for (int to = random.nextInt(n); to < n; to++) {
                due("offer(" + b + ", " + to + ")", x.offer(b, to), y.offer(b, to));
            }
        } else if (dice < 9) {
            due("vote(" + s + ", " + b + ", " + r + ")", x.vote(s, b, r), y.vote(s, b, r));
        } else {
            String call = "claim(" + s + ", " + view + ", " + b + ", " + r + ")";
            due(call, x.claim(s, view, b, r), y.claim(s, view, b, r));
        }
    }

    private void disturb() {
        int dice = random.nextInt(10);
        int i = place();
        int r = replica();
        if (dice < 4) {
            due("deliver(" + i + ")", x.deliver(i), y.deliver(i));
        } else if (dice < 5) {
            due("drop(" + i + ")", x.drop(i), y.drop(i));
        } else if (dice < 6) {
            due("lead(" + r + ")", x.lead(r), y.lead(r));
        } else {
            due("tick(" + r + ")", x.tick(r), y.tick(r));
        }
    }

    private void ask() {
        int r = replica();
        int b = someBlock();
        int i = place();
        int small = random.nextInt(25) == 0 ? odd() : random.nextInt(9);
        int t = random.nextInt(25);
        switch (random.nextInt(12)) {
            case 0 -> due("waiting()", x.waiting(), y.waiting());
            case 1 -> due("message(" + i + ")", x.message(i), y.message(i));
            case 2 -> due("block(" + b + ")", x.block(b), y.block(b));
            case 3 -> due("payload(" + b + ")", x.payload(b), y.payload(b));
            case 4 -> due("votes(" + b + ")", x.votes(b), y.votes(b));
            case 5 -> due("committed(" + r + ", " + small + ")", x.committed(r, small), y.committed(r, small));
            case 6 -> due("balance(" + r + ", " + small + ")", x.balance(r, small), y.balance(r, small));
            case 7 -> due("outcome(" + r + ", " + t + ")", x.outcome(r, t), y.outcome(r, t));
            case 8 -> due("lost()", x.lost(), y.lost());
            default -> due("state(" + r + ", " + small + ")", x.state(r, small), y.state(r, small));
        }
    }
}
