/** Promise 8: forge. */
public final class ForgeTest {
    private static final Check CHECK = new Check();

    public static void main(String[] args) {
        blocksAreMadeAndNothingIsSent();
        wrongOnesAreRefused();
        theParentNeedsACertificate();
        twoLiarsAndTwoVotesAreNotEnough();
        fortyBlocksAreTheMost();
        CHECK.end();
    }

    private static void blocksAreMadeAndNothingIsSent() {
        ThreeChainLedger x = new ThreeChainLedger(1, 2, 4);
        x.submit(0, 0, 1, 1);
        x.submit(0, 0, 1, 1);
        CHECK.due("forge(0, 5, 0)", x.forge(0, 5, 0), 1);
        CHECK.due("forge(0, 5, 3)", x.forge(0, 5, 3), 2);
        CHECK.due("forge(0, 8, 2)", x.forge(0, 8, 2), 3);
        // (9999 - 1) / 4 = 2499, and 2499 modulo 4 is 3; 9992 is the last view of replica 1 up to there.
        CHECK.due("forge(0, 9992, 2)", x.forge(0, 9992, 2), 4);
        CHECK.due("block(2)", x.block(2), 64 * 5);
        CHECK.due("payload(2)", x.payload(2), 3);
        CHECK.due("votes(2)", x.votes(2), 0);
        CHECK.due("block(4)", x.block(4), 64 * 9992);
        CHECK.due("waiting()", x.waiting(), 0);
    }

    private static void wrongOnesAreRefused() {
        ThreeChainLedger x = new ThreeChainLedger(1, 2, 4);
        x.submit(0, 0, 1, 1);
        int[][] wrong = {
            {-1, 5, 0}, {1, 5, 0}, {40, 5, 0}, {Integer.MIN_VALUE, 5, 0}, {Integer.MAX_VALUE, 5, 0},
            {0, 0, 0}, {0, -1, 0}, {0, -11, 0}, {0, Integer.MIN_VALUE, 0},
            {0, 4, 0}, {0, 9, 0}, {0, 1, 0},
            {0, 10005, 0}, {0, Integer.MAX_VALUE, 0},
            {0, 5, 2}, {0, 5, 3}, {0, 5, -1}, {0, 5, 1 << 24}, {0, 5, Integer.MIN_VALUE},
        };
        for (int[] w : wrong) {
            CHECK.due("forge(" + w[0] + ", " + w[1] + ", " + w[2] + ")", x.forge(w[0], w[1], w[2]), -1);
        }
        CHECK.due("block(1)", x.block(1), -1);
        CHECK.due("forge(0, 5, 1)", x.forge(0, 5, 1), 1);
        // Replica 3 leads view 9999, and view 10000 as well.
        ThreeChainLedger y = new ThreeChainLedger(1, 8, 4);
        CHECK.due("forge(0, 9999, 0)", y.forge(0, 9999, 0), 1);
        CHECK.due("forge(0, 10000, 0)", y.forge(0, 10000, 0), -1);
        ThreeChainLedger z = new ThreeChainLedger(1, 0, 4);
        for (int view = 1; view < 20; view++) {
            CHECK.due("forge(0, " + view + ", 0) without liars", z.forge(0, view, 0), -1);
        }
    }

    private static void theParentNeedsACertificate() {
        ThreeChainLedger x = Scene.withLiar();
        Scene.show(x, 0, 3, 0, 1);
        CHECK.due("forge(1, 4, 0), one vote", x.forge(1, 4, 0), -1);
        x.offer(1, 2);
        CHECK.due("forge(1, 4, 0), the vote not yet given", x.forge(1, 4, 0), -1);
        x.deliver(0);
        CHECK.due("forge(1, 4, 0), the vote still waiting", x.forge(1, 4, 0), 2);
        CHECK.due("block(2)", x.block(2), 64 * 4 + 1);
        CHECK.due("forge(1, 3, 0), the parent's view", x.forge(1, 3, 0), -1);
        CHECK.due("forge(1, 2, 0)", x.forge(1, 2, 0), -1);
        CHECK.due("forge(2, 5, 0)", x.forge(2, 5, 0), -1);
    }

    private static void twoLiarsAndTwoVotesAreNotEnough() {
        ThreeChainLedger x = new ThreeChainLedger(2, 3, 9);
        Scene.show(x, 0, 1, 0, 2, 3);
        CHECK.due("forge(1, 2, 0), two votes", x.forge(1, 2, 0), -1);
        x.offer(1, 4);
        x.flow(40);
        CHECK.due("forge(1, 2, 0), three votes", x.forge(1, 2, 0), 2);
        // With one liar, not two, it takes four votes.
        ThreeChainLedger y = new ThreeChainLedger(2, 1, 9);
        Scene.show(y, 0, 1, 0, 1, 2, 3);
        CHECK.due("forge(1, 2, 0), three votes and one liar", y.forge(1, 2, 0), -1);
        y.offer(1, 4);
        y.flow(40);
        CHECK.due("forge(1, 2, 0), four votes and one liar", y.forge(1, 2, 0), 2);
    }

    private static void fortyBlocksAreTheMost() {
        ThreeChainLedger x = Scene.withLiar();
        for (int b = 1; b < 40; b++) {
            CHECK.due("forge of block " + b, x.forge(0, 1 + b % 9, 0), b);
        }
        CHECK.due("forge of block 40", x.forge(0, 1, 0), -1);
        CHECK.due("block(39)", x.block(39), 64 * 4);
        CHECK.due("block(40)", x.block(40), -1);
    }
}
