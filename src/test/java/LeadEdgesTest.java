import java.util.function.Supplier;

/** Promise 3: the edges of lead, and that a refused one changes nothing. */
public final class LeadEdgesTest {
    private static final Check CHECK = new Check();

    public static void main(String[] args) {
        rIsAReplica();
        rIsCorrect();
        rIsTheLeader();
        onceInAView();
        fortyBlocks();
        inViewOne();
        uponTheViewBefore();
        withPush();
        pushNeedsAQuorum();
        twoTransfersOrFewer();
        theLeastNumbers();
        onlyHeldOnes();
        noneOfTheChain();
        roomForProposals();
        proposedThoughLost();
        proposalsInOrder();
        CHECK.end();
    }

    private static ThreeChainLedger fresh() {
        return new ThreeChainLedger(1, 0, 4);
    }

    /** The views 1 to count are led, each block gets its certificate. */
    private static ThreeChainLedger led(int faults, int count) {
        ThreeChainLedger x = new ThreeChainLedger(faults, 0, 4);
        for (int view = 1; view <= count; view++) {
            Scene.round(x, (view - 1) / 4 % (3 * faults + 1));
        }
        return x;
    }

    private static void refused(String where, Supplier<ThreeChainLedger> scene, int r) {
        CHECK.refused("lead(" + r + ")" + where, scene, x -> x.lead(r));
    }

    private static void rIsAReplica() {
        CHECK.sentence("-1, refused, if r is not a replica");
        int[] none = {-1, 4, 7, 32, Integer.MIN_VALUE, Integer.MAX_VALUE};
        for (int r : none) {
            refused("", LeadEdgesTest::fresh, r);
        }
        refused(" with seven replicas", () -> led(2, 0), 7);
        refused(" with seven replicas", () -> led(2, 0), -1);
        CHECK.due("lead(0)", fresh().lead(0), 1);
        CHECK.due("lead(3) in view 13, the last replica", led(1, 12).lead(3), 13);
        CHECK.due("lead(6) in view 25, the last replica of seven", led(2, 24).lead(6), 25);
    }

    private static void rIsCorrect() {
        CHECK.sentence("-1, refused, if r is not a correct replica");
        refused(", the leader being corrupt", () -> new ThreeChainLedger(1, 1, 4), 0);
        refused(", the leader being corrupt", () -> new ThreeChainLedger(2, 3, 4), 0);
        refused(", the leader of view 5 being corrupt", LeadEdgesTest::beforeTheCorruptTurn, 1);
        CHECK.due("lead(0), another one being corrupt", new ThreeChainLedger(1, 2, 4).lead(0), 1);
    }

    /** The four blocks of replica 0 have their certificates, and the corrupt replica 1 got the votes for the last. */
    private static ThreeChainLedger beforeTheCorruptTurn() {
        ThreeChainLedger x = new ThreeChainLedger(1, 2, 4);
        for (int i = 0; i < 4; i++) {
            Scene.round(x, 0);
        }
        return x;
    }

    private static void rIsTheLeader() {
        CHECK.sentence("-1, refused, if it is not the leader of v");
        for (int r = 1; r < 4; r++) {
            refused(" in view 1", LeadEdgesTest::fresh, r);
        }
        CHECK.due("lead(0) in view 4, the last of its turn", led(1, 3).lead(0), 4);
        CHECK.due("lead(1) in view 5, the first of its turn", led(1, 4).lead(1), 5);
        // All saw the certificate of block 4 by block 5, so HIGH is of view v - 1 for each of them.
        Supplier<ThreeChainLedger> inViewFive = () -> {
            ThreeChainLedger x = led(1, 4);
            x.lead(1);
            x.flow(4);
            return x;
        };
        CHECK.dueState(inViewFive.get(), 0, 5, 0, 2, 5, 4, 4, 3, 2, 0);
        refused(" in view 5, its turn being over", inViewFive, 0);
        refused(" in view 5, its turn being to come", inViewFive, 2);
        refused(" in view 5", inViewFive, 3);
    }

    private static void onceInAView() {
        CHECK.sentence("-1, refused, if PROPOSED is v");
        Supplier<ThreeChainLedger> proposed = () -> {
            ThreeChainLedger x = fresh();
            x.lead(0);
            return x;
        };
        refused(" again, its proposals waiting", proposed, 0);
        Supplier<ThreeChainLedger> dropped = () -> {
            ThreeChainLedger x = proposed.get();
            for (int i = 0; i < 4; i++) {
                x.drop(0);
            }
            return x;
        };
        refused(" again, its proposals being dropped", dropped, 0);
        Supplier<ThreeChainLedger> second = () -> {
            ThreeChainLedger x = led(1, 1);
            x.lead(0);
            return x;
        };
        refused(" again in view 2", second, 0);
        CHECK.due("lead(0) when PROPOSED is v - 1", led(1, 1).lead(0), 2);
    }

    private static ThreeChainLedger withBlocks(int count) {
        ThreeChainLedger x = new ThreeChainLedger(1, 2, 4);
        for (int b = 1; b < count; b++) {
            x.forge(0, 5, 0);
        }
        return x;
    }

    private static void fortyBlocks() {
        CHECK.sentence("-1, refused, if 40 blocks are there");
        ThreeChainLedger x = withBlocks(39);
        CHECK.due("lead(0) when 39 are there", x.lead(0), 39);
        CHECK.due("block(39)", x.block(39), 64);
        refused(" when 40 are there", () -> withBlocks(40), 0);
        refused(" in view 40 upon block 39", () -> led(1, 39), 1);
        CHECK.due("lead(1) in view 39 upon block 38", led(1, 38).lead(1), 39);
    }

    private static void inViewOne() {
        CHECK.sentence("-1, refused, if none holds: v is 1");
        CHECK.due("lead(0) in view 1", fresh().lead(0), 1);
        CHECK.due("lead(0) in view 1 of seven", led(2, 0).lead(0), 1);
        refused(" in view 2 upon block 0", LeadEdgesTest::alone, 0);
    }

    /** Replica 0 went on to view 2 by its timer, and its NEWVIEW is dropped. */
    private static ThreeChainLedger alone() {
        ThreeChainLedger x = fresh();
        Scene.ticks(x, 0, 2);
        x.drop(0);
        return x;
    }

    private static void uponTheViewBefore() {
        CHECK.sentence("-1, refused, if none holds: the view of HIGH is v - 1");
        ThreeChainLedger x = led(1, 2);
        CHECK.dueState(x, 0, 3, 0, 2, 2, 2, 2, 1, 0, 0);
        CHECK.due("lead(0), HIGH being of view v - 1", x.lead(0), 3);
        CHECK.due("block(3)", x.block(3), 64 * 3 + 2);
        Supplier<ThreeChainLedger> later = () -> {
            ThreeChainLedger y = led(1, 2);
            Scene.ticks(y, 0, 2);
            y.drop(0);
            return y;
        };
        CHECK.dueState(later.get(), 0, 4, 0, 4, 2, 2, 2, 1, 0, 0);
        refused(", HIGH being of view v - 2", later, 0);
    }

    /** Replica 0 is in view 2 by the NEWVIEWs of the others. */
    private static ThreeChainLedger pushed() {
        ThreeChainLedger x = fresh();
        for (int r = 1; r < 4; r++) {
            Scene.ticks(x, r, 2);
        }
        x.flow(40);
        return x;
    }

    private static void withPush() {
        CHECK.sentence("-1, refused, if none holds: PUSH is v or more");
        ThreeChainLedger x = pushed();
        CHECK.dueState(x, 0, 2, 0, 2, 0, 0, 0, 0, 0, 2);
        CHECK.due("lead(0), PUSH being v", x.lead(0), 1);
        CHECK.due("block(1)", x.block(1), 64 * 2);
        Supplier<ThreeChainLedger> later = () -> {
            ThreeChainLedger y = pushed();
            Scene.ticks(y, 0, 2);
            y.drop(0);
            return y;
        };
        CHECK.dueState(later.get(), 0, 3, 0, 4, 0, 0, 0, 0, 0, 2);
        refused(", PUSH being v - 1", later, 0);
    }

    private static void pushNeedsAQuorum() {
        CHECK.sentence("-1, refused, if none holds: PUSH is v, of NEWVIEWs from 2f + 1 different replicas");
        for (int faults = 1; faults <= 2; faults++) {
            int f = faults;
            // Replica 0 went on by its own timer; its own NEWVIEW is the last of 2f + 1 and waits.
            Supplier<ThreeChainLedger> twoF = () -> {
                ThreeChainLedger x = new ThreeChainLedger(f, 0, 4);
                for (int r = 2 * f; r >= 0; r--) {
                    Scene.ticks(x, r, 2);
                }
                x.flow(2 * f);
                return x;
            };
            refused(" in view 2 after 2f NEWVIEWs", twoF, 0);
            ThreeChainLedger y = twoF.get();
            y.flow(1);
            CHECK.due("lead(0) in view 2 after 2f + 1 NEWVIEWs", y.lead(0), 1);
        }
    }

    private static void twoTransfersOrFewer() {
        CHECK.sentence("it has the two transfers with the least numbers (fewer, if there are not so many)");
        int[] payloads = {0, 1, 3, 3, 3};
        for (int count = 0; count < payloads.length; count++) {
            ThreeChainLedger x = fresh();
            for (int t = 0; t < count; t++) {
                x.submit(1, 0, 1, 1);
            }
            x.lead(0);
            CHECK.due("payload(1) of " + count + " held", x.payload(1), payloads[count]);
        }
    }

    private static void theLeastNumbers() {
        CHECK.sentence("the two transfers with the least numbers, up to the last of 24");
        ThreeChainLedger x = fresh();
        for (int t = 0; t < 24; t++) {
            x.submit(1, 0, 1, 1);
        }
        for (int b = 1; b <= 4; b++) {
            Scene.round(x, 0);
            CHECK.due("payload(" + b + ")", x.payload(b), 3 << 2 * (b - 1));
        }
        ThreeChainLedger y = fresh();
        for (int t = 0; t < 24; t++) {
            y.submit(t < 22 ? 2 : 1, 0, 1, 1);
        }
        y.lead(0);
        CHECK.due("payload(1), the last two of 24", y.payload(1), 3 << 22);
    }

    private static void onlyHeldOnes() {
        CHECK.sentence("among those that r holds");
        ThreeChainLedger x = fresh();
        int[] holders = {14, 0, 1, 8, 15, 1};
        for (int h : holders) {
            x.submit(h, 0, 1, 1);
        }
        x.lead(0);
        CHECK.due("payload(1)", x.payload(1), 0b10100);
        ThreeChainLedger last = led(2, 24);
        last.submit(63, 0, 1, 1);
        last.submit(64, 0, 1, 1);
        last.lead(6);
        CHECK.due("payload(25), of the last replica", last.payload(25), 0b10);
    }

    private static void noneOfTheChain() {
        CHECK.sentence("and that are in no block of HIGH's chain");
        // Block 1 has the transfers 0 and 1, block 2 has 2; block 3 upon it knows neither.
        ThreeChainLedger x = Scene.withLiar();
        for (int t = 0; t < 4; t++) {
            x.submit(2, 0, 1, 1);
        }
        Scene.show(x, 0, 8, 0b0011, 1, 2, 3);
        Scene.show(x, 1, 9, 0b0100, 1, 2, 3);
        x.vote(0, 2, 1);
        x.flow(40);
        CHECK.due("lead(1) upon block 2", x.lead(1), 3);
        CHECK.due("block(3)", x.block(3), 64 * 10 + 2);
        CHECK.due("payload(3), without those of HIGH and of its parent", x.payload(3), 0b1000);
        // A block aside and a block above HIGH have them all, but neither is in the chain of HIGH.
        ThreeChainLedger y = Scene.withLiar();
        for (int t = 0; t < 4; t++) {
            y.submit(2, 0, 1, 1);
        }
        Scene.show(y, 0, 8, 0b1111, 1, 2, 3);
        Scene.show(y, 0, 9, 0b0001, 1, 2, 3);
        y.forge(2, 37, 0b1111);
        CHECK.due("lead(1) upon block 2", y.lead(1), 4);
        CHECK.due("block(4)", y.block(4), 64 * 10 + 2);
        CHECK.due("payload(4)", y.payload(4), 0b0110);
    }

    /** So many messages wait, to the correct replica 2, and no certificate can come of them. */
    private static ThreeChainLedger withWaiting(int faults, int count) {
        ThreeChainLedger x = new ThreeChainLedger(faults, 2, 4);
        x.forge(0, 5, 0);
        Scene.fill(x, 1, 1, 2, count);
        return x;
    }

    private static void roomForProposals() {
        CHECK.sentence("(whether there is room for its messages or not: what finds none is LOST)");
        for (int faults = 1; faults <= 2; faults++) {
            int n = 3 * faults + 1;
            for (int room = 0; room <= n + 1; room++) {
                ThreeChainLedger x = withWaiting(faults, 40 - room);
                String where = " with room for " + room;
                CHECK.due("lead(0)" + where, x.lead(0), 2);
                CHECK.due("waiting()" + where, x.waiting(), Math.min(40, 40 - room + n));
                CHECK.due("lost()" + where, x.lost(), Math.max(0, n - room));
                for (int r = 0; r < Math.min(room, n); r++) {
                    CHECK.due("message of place " + r + where, x.message(40 - room + r), 4 * r + 512);
                }
            }
        }
    }

    private static void proposedThoughLost() {
        CHECK.sentence("PROPOSED becomes v (whether there is room for its messages or not)");
        ThreeChainLedger x = withWaiting(1, 40);
        x.lead(0);
        CHECK.dueState(x, 0, 1, 0, 2, 0, 1, 0, 0, 0, 0);
        CHECK.due("block(2)", x.block(2), 64);
        CHECK.due("block(3)", x.block(3), -1);
        Supplier<ThreeChainLedger> proposed = () -> {
            ThreeChainLedger y = withWaiting(1, 40);
            y.lead(0);
            return y;
        };
        refused(" again, all of its proposals being lost", proposed, 0);
    }

    private static void proposalsInOrder() {
        CHECK.sentence("PROPOSALs of it go to the replicas 0, 1, .. n - 1, in this order");
        for (int faults = 1; faults <= 2; faults++) {
            int n = 3 * faults + 1;
            ThreeChainLedger x = withWaiting(faults, 1);
            x.lead(0);
            CHECK.due("waiting()", x.waiting(), n + 1);
            for (int r = 0; r < n; r++) {
                CHECK.due("message(" + (r + 1) + ")", x.message(r + 1), 4 * r + 512);
            }
        }
    }
}
