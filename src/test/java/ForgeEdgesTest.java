import java.util.function.Supplier;

/** Promise 8: the edges of forge, and that a refused one changes nothing. */
public final class ForgeEdgesTest {
    private static final Check CHECK = new Check();

    public static void main(String[] args) {
        theParentIsThere();
        theParentHasACertificate();
        theViewIsAboveTheParents();
        theViewIsAtMost9999();
        theLeaderIsCorrupt();
        theSetHasTransfersAlone();
        fortyBlocks();
        theBlockIsAsGiven();
        nothingIsSent();
        oneCertificateAView();
        CHECK.end();
    }

    private static void refused(String where, Supplier<ThreeChainLedger> scene, int parent, int view, int set) {
        String call = "forge(" + parent + ", " + view + ", " + set + ")" + where;
        CHECK.refused(call, scene, x -> x.forge(parent, view, set));
    }

    private static void taken(String where, Supplier<ThreeChainLedger> scene, int[] forged, int number) {
        ThreeChainLedger x = scene.get();
        String call = "forge(" + forged[0] + ", " + forged[1] + ", " + forged[2] + ")" + where;
        CHECK.due(call, x.forge(forged[0], forged[1], forged[2]), number);
        CHECK.due("block(" + number + ") after " + call, x.block(number), 64 * forged[1] + forged[0]);
        CHECK.due("payload(" + number + ") after " + call, x.payload(number), forged[2]);
        CHECK.due("block(" + (number + 1) + ") after " + call, x.block(number + 1), -1);
    }

    /**
     * Replica 1 is corrupt and leads the views 5 to 8; the blocks 1 and 2 of the views 5 and 7 have certificates, and
     * a vote for the second one waits.
     */
    private static ThreeChainLedger two() {
        ThreeChainLedger x = new ThreeChainLedger(1, 2, 4);
        x.submit(15, 0, 1, 10);
        x.submit(15, 1, 2, 10);
        Scene.show(x, 0, 5, 1, 0, 2, 3);
        Scene.show(x, 1, 7, 0, 0, 2, 3);
        x.vote(1, 2, 3);
        return x;
    }

    private static void theParentIsThere() {
        CHECK.sentence("-1, refused, if there is no such parent");
        int[] none = {-1, 3, 39, 40, Integer.MIN_VALUE, Integer.MAX_VALUE};
        for (int parent : none) {
            refused("", ForgeEdgesTest::two, parent, 8, 0);
        }
        for (int parent = 0; parent <= 2; parent++) {
            taken("", ForgeEdgesTest::two, new int[] {parent, 8, 0}, 3);
        }
    }

    /** Block 1 of view 1 has so many votes of correct replicas. */
    private static ThreeChainLedger voted(int faults, int corrupt, int votes) {
        ThreeChainLedger x = new ThreeChainLedger(faults, corrupt, 9);
        x.forge(0, 1, 0);
        for (int i = 0; i < votes; i++) {
            x.offer(1, 3 * faults - i);
        }
        x.flow(40);
        return x;
    }

    private static void theParentHasACertificate() {
        CHECK.sentence("-1, refused, if there is no certificate of it: voters and corrupt ones are 2f + 1 or more");
        refused(", 1 vote and 1 corrupt of 4", () -> voted(1, 1, 1), 1, 2, 0);
        taken(", 2 votes and 1 corrupt of 4", () -> voted(1, 1, 2), new int[] {1, 2, 0}, 2);
        taken(", 3 votes and 1 corrupt of 4", () -> voted(1, 1, 3), new int[] {1, 2, 0}, 2);
        refused(", 3 votes and 1 corrupt of 7", () -> voted(2, 1, 3), 1, 2, 0);
        taken(", 4 votes and 1 corrupt of 7", () -> voted(2, 1, 4), new int[] {1, 2, 0}, 2);
        refused(", 2 votes and 2 corrupt of 7", () -> voted(2, 3, 2), 1, 2, 0);
        taken(", 3 votes and 2 corrupt of 7", () -> voted(2, 3, 3), new int[] {1, 2, 0}, 2);
        // The corrupt ones count whether their votes were sent or not, and not twice.
        Supplier<ThreeChainLedger> loud = () -> {
            ThreeChainLedger x = voted(1, 1, 1);
            for (int r = 0; r < 4; r++) {
                x.vote(0, 1, r);
            }
            x.flow(40);
            return x;
        };
        refused(", 1 vote and 1 corrupt, whose votes were got", loud, 1, 2, 0);
        taken(", upon block 0 from the beginning", Scene::withLiar, new int[] {0, 1, 0}, 1);
        // The certificate is there from the vote on, not from when the vote is got.
        ThreeChainLedger x = voted(1, 1, 1);
        x.offer(1, 2);
        CHECK.due("forge(1, 2, 0), the second proposal waiting", x.forge(1, 2, 0), -1);
        x.deliver(0);
        CHECK.due("forge(1, 2, 0), the second vote waiting", x.forge(1, 2, 0), 2);
    }

    private static void theViewIsAboveTheParents() {
        CHECK.sentence("-1, refused, if the view is not above the parent's view");
        int[] none = {7, 6, 5, 0, -1, Integer.MIN_VALUE};
        for (int view : none) {
            refused(", the parent being of view 7", ForgeEdgesTest::two, 2, view, 0);
        }
        taken(", the parent being of view 7", ForgeEdgesTest::two, new int[] {2, 8, 0}, 3);
        taken(", the parent being of view 7", ForgeEdgesTest::two, new int[] {2, 21, 0}, 3);
        refused(", the parent being of view 5", ForgeEdgesTest::two, 1, 5, 0);
        taken(", the parent being of view 5", ForgeEdgesTest::two, new int[] {1, 6, 0}, 3);
        taken(", the parent being of view 5", ForgeEdgesTest::two, new int[] {1, 7, 0}, 3);
        // The corrupt replica 0 leads view 1, and would lead view 0 and those below, were there such views.
        int[] belowOne = {0, -1, -2, -35, Integer.MIN_VALUE};
        for (int view : belowOne) {
            refused(", the parent being block 0", () -> withTransfers(2), 0, view, 0);
        }
        taken(", the parent being block 0", () -> withTransfers(2), new int[] {0, 1, 0}, 1);
    }

    private static void theViewIsAtMost9999() {
        CHECK.sentence("-1, refused, if the view is above 9999");
        // (9999 - 1) / 4 and (10000 - 1) / 4 are both 2499, which is 3 modulo 4: replica 3 leads both views.
        Supplier<ThreeChainLedger> four = () -> new ThreeChainLedger(1, 8, 4);
        taken("", four, new int[] {0, 9998, 0}, 1);
        taken("", four, new int[] {0, 9999, 0}, 1);
        refused("", four, 0, 10000, 0);
        refused("", four, 0, 10013, 0);
        // (9999 - 1) / 9 and (10000 - 1) / 9 are 1110 and 1111, which are 4 and 5 modulo 7.
        Supplier<ThreeChainLedger> seven = () -> new ThreeChainLedger(2, 48, 9);
        taken(" of seven", seven, new int[] {0, 9999, 0}, 1);
        refused(" of seven", seven, 0, 10000, 0);
        for (int r = 0; r < 4; r++) {
            int corrupt = 1 << r;
            Supplier<ThreeChainLedger> one = () -> new ThreeChainLedger(1, corrupt, 4);
            refused(", replica " + r + " being corrupt", one, 0, Integer.MAX_VALUE, 0);
        }
        // A block of view 9999 can be a parent, but no forged block comes upon it.
        Supplier<ThreeChainLedger> last = () -> {
            ThreeChainLedger x = new ThreeChainLedger(1, 8, 4);
            Scene.show(x, 0, 9999, 0, 0, 1, 2);
            return x;
        };
        refused(", the parent being of view 9999", last, 1, 10000, 0);
    }

    private static void theLeaderIsCorrupt() {
        CHECK.sentence("-1, refused, if its leader is not corrupt");
        // Replica 1 leads the views 5 to 8 and 21 to 24.
        Supplier<ThreeChainLedger> scene = () -> new ThreeChainLedger(1, 2, 4);
        int[] others = {1, 4, 9, 12, 13, 16, 17, 20, 25};
        int[] own = {5, 6, 8, 21, 24, 37};
        for (int view : others) {
            refused("", scene, 0, view, 0);
        }
        for (int view : own) {
            taken("", scene, new int[] {0, view, 0}, 1);
        }
        // Of two corrupt ones each may, in its own views.
        Supplier<ThreeChainLedger> both = () -> new ThreeChainLedger(2, 65, 4);
        taken(" of 0 and 6", both, new int[] {0, 4, 0}, 1);
        refused(" of 0 and 6", both, 0, 5, 0);
        refused(" of 0 and 6", both, 0, 24, 0);
        taken(" of 0 and 6", both, new int[] {0, 25, 0}, 1);
        taken(" of 0 and 6", both, new int[] {0, 29, 0}, 1);
        for (int view = 1; view <= 17; view += 4) {
            refused(", nobody being corrupt", () -> new ThreeChainLedger(1, 0, 4), 0, view, 0);
        }
    }

    private static ThreeChainLedger withTransfers(int count) {
        ThreeChainLedger x = Scene.withLiar();
        for (int t = 0; t < count; t++) {
            x.submit(t % 16, 0, 1, 1);
        }
        return x;
    }

    private static void theSetHasTransfersAlone() {
        CHECK.sentence("-1, refused, if the set has a bit that is no transfer's");
        int[] counts = {0, 1, 2, 23, 24};
        for (int count : counts) {
            Supplier<ThreeChainLedger> scene = () -> withTransfers(count);
            String where = " with " + count + " transfers";
            int all = (1 << count) - 1;
            taken(where, scene, new int[] {0, 1, 0}, 1);
            taken(where, scene, new int[] {0, 1, all}, 1);
            for (int bit = 0; bit < 32; bit++) {
                if (bit < count) {
                    taken(where, scene, new int[] {0, 1, 1 << bit}, 1);
                } else {
                    refused(where, scene, 0, 1, 1 << bit);
                }
            }
            refused(where, scene, 0, 1, all | 1 << count);
            refused(where, scene, 0, 1, -1);
        }
    }

    private static ThreeChainLedger withBlocks(int count) {
        ThreeChainLedger x = Scene.withLiar();
        for (int b = 1; b < count; b++) {
            x.forge(0, 1 + b % 9, 0);
        }
        return x;
    }

    private static void fortyBlocks() {
        CHECK.sentence("-1, refused, if 40 blocks are there (block 0 is one of them)");
        taken(" when 38 are there", () -> withBlocks(38), new int[] {0, 1, 0}, 38);
        taken(" when 39 are there", () -> withBlocks(39), new int[] {0, 1, 0}, 39);
        refused(" when 40 are there", () -> withBlocks(40), 0, 1, 0);
        refused(" when 40 are there", () -> withBlocks(40), 0, 9, 0);
    }

    private static void theBlockIsAsGiven() {
        CHECK.sentence("makes a block with that view, the parent and the set of transfers. Its number");
        taken("", ForgeEdgesTest::two, new int[] {2, 8, 3}, 3);
        ThreeChainLedger x = two();
        // Another block of the same view, and of the same words, is another block.
        for (int b = 3; b < 6; b++) {
            CHECK.due("forge(1, 7, 1)", x.forge(1, 7, 1), b);
            CHECK.due("votes(" + b + ")", x.votes(b), 0);
        }
        CHECK.due("block(2)", x.block(2), 64 * 7 + 1);
        CHECK.due("payload(2)", x.payload(2), 0);
    }

    private static void nothingIsSent() {
        CHECK.sentence("nothing is sent");
        ThreeChainLedger x = two();
        x.forge(2, 8, 1);
        CHECK.due("waiting()", x.waiting(), 1);
        CHECK.due("message(0)", x.message(0), 1 + 4 * 3 + 32 + 256 * 2);
        CHECK.due("lost()", x.lost(), 0);
        ThreeChainLedger y = Scene.withLiar();
        for (int i = 0; i < 40; i++) {
            y.claim(0, 1, 0, 2);
        }
        CHECK.due("forge(0, 1, 0) when 40 messages wait", y.forge(0, 1, 0), 1);
        CHECK.due("lost()", y.lost(), 0);
    }

    private static void oneCertificateAView() {
        CHECK.sentence("(So there are never certificates of two blocks of one view.)");
        for (int faults = 1; faults <= 2; faults++) {
            int correct = 2 * faults + 1;
            int liars = (1 << faults) - 1;
            // Each correct replica gets both proposals, the one that its bit tells before the other one.
            for (int split = 0; split < 1 << correct; split++) {
                ThreeChainLedger x = new ThreeChainLedger(faults, liars, 9);
                x.forge(0, 1, 0);
                x.forge(0, 1, 0);
                for (int i = 0; i < correct; i++) {
                    int first = 1 + (split >> i & 1);
                    x.offer(first, faults + i);
                    x.offer(3 - first, faults + i);
                }
                x.flow(40);
                int second = Integer.bitCount(split);
                String where = " after " + (correct - second) + " and " + second + " votes";
                CHECK.due("claim with block 1" + where, x.claim(0, 1, 1, 0), correct - second + faults >= correct);
                CHECK.due("claim with block 2" + where, x.claim(0, 1, 2, 0), second + faults >= correct);
            }
        }
    }
}
